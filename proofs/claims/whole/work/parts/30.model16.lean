-- the reference: check
/-- what the rows of the image must say: heard and note by turns -/
def duR (im : Nat → Int32) (j : Nat) : Int32 := if j % 2 = 0 then goM im (j / 2 + 1) 3 else goM im (j / 2 + 1) 28
theorem duR_e (im : Nat → Int32) (i : Nat) : duR im (2 * i) = goM im (i + 1) 3 := by
  rw [duR, if_pos (by omega), show 2 * i / 2 = i by omega]
theorem duR_o (im : Nat → Int32) (i : Nat) : duR im (2 * i + 1) = goM im (i + 1) 28 := by
  rw [duR, if_neg (by omega), show (2 * i + 1) / 2 = i by omega]
def chB (W m : Nat) (wt im : Nat → Int32) (j : Nat) : Bool := decide (W ≤ j ∨ 2 * m ≤ j ∨ ¬ wt j = duR im j)
def chK (W m : Nat) (wt im : Nat → Int32) : Nat := fstB (chB W m wt im) 61
def F_check (hI : Int32) (W : Nat) (wt im : Nat → Int32) (n : Int32) : Int32 :=
  if ¬ inR n 1 30 then -1000000001 else if hI = 0 then -1000000002
  else if chK W (min n.toNatClampNeg (9999 - sN im 2)) wt im = W ∧ chK W (min n.toNatClampNeg (9999 - sN im 2)) wt im = 2 * min n.toNatClampNeg (9999 - sN im 2) then 0 else nI (1 + chK W (min n.toNatClampNeg (9999 - sN im 2)) wt im)
theorem asR_b (s o f : Nat → Int32) (m : Nat) : asR (asR s o) (goM (asR f s) m) = s := by
  funext j
  by_cases h : j < 2840
  · rw [asR, if_pos h, asR, if_pos h]
  · rw [asR, if_neg h, goM_o _ (by omega) (by omega) (by omega) (by omega) (by omega) (by omega) (by omega), asR, if_neg h]
def scC : Nat → Prop := fun i => scP i ∨ i = 78
theorem scP_no {i : Nat} (h : i = 78 ∨ i = 80 ∨ i = 96) : ¬ scP i := fun e => by unfold scP at e; omega
theorem m_check (g : Cx) (w : Wd) (hw : Wf w) (s : Nat → Int32) (hs : wI w 79 = s) (W : Nat) (hW : W ≤ 60) (h30 : wI w 78 30 = nI W) (hI : ¬ wI w 78 3 = 0 → Gd (asR (wI w 80) s) ∧ sN (asR (wI w 80) s) 2 ≤ 9999) (n : Int32) : CI g yX9_check cX9_check 5 (some .int) 7 0 0 [.ref (gb g + 78), .int n] w (fun r w' => r = F_check (wI w 78 3) W (wI w 96) (asR (wI w 80) s) n ∧ wI w' 79 = s ∧ wI w' 78 = upd (wI w 78) 30 0 ∧ Sm scC w w') := by
  obtain ⟨im, eim⟩ : ∃ im, im = asR (wI w 80) s := ⟨_, rfl⟩
  rw [← eim] at hI ⊢
  refine CI.of (own := RX9) (nm := "check") (lv := [some (.ref (gb g + 78)), some (.int n), none, none, none]) (by decide) rfl rfl (Nat.le_of_ble_eq_true rfl) rfl (fun Q hQ => ?_)
  obtain ⟨w0, e0⟩ : ∃ w0, w0 = sR w 78 (upd (wI w 78) 30 0) := ⟨_, rfl⟩
  have r79 : wI w0 79 = s := by rw [e0, wI_sR_n _ (by decide)]; exact hs
  have r78 : wI w0 78 = upd (wI w 78) 30 0 := by rw [e0, wI_sR_s]
  have r80 : wI w0 80 = wI w 80 := by rw [e0, wI_sR_n _ (by decide)]
  have r96 : wI w0 96 = wI w 96 := by rw [e0, wI_sR_n _ (by decide)]
  have hm0 : Sm scC w w0 := by rw [e0]; exact Sm.sR (Or.inr rfl)
  have hw0 : Wf w0 := hm0.wf hw
  by_cases hn : inR n 1 30
  · by_cases hz : wI w 78 3 = 0
    · have h9 : RR g RX9 cX9_check 5 (some .int) "check" 7 0 0 0 0 25 [some (.ref (gb g + 78)), some (.int n), some (.int (nI W)), none, none] [] w0 Q := by
        refine jr_aload_n dX9_check_25 rfl ?_
        refine gfX9_318 dX9_check_26 (hw0.k rfl) ?_
        rw [r78, pk_un (by decide)]
        refine jr_if_ne 36 dX9_check_29 (by decide) (fun c_29 => absurd hz c_29) (fun c_29 => ?_)
        refine jr_ldcw (-1000000002) ckX9_312 dX9_check_32 ?_
        refine jr_iret rfl dX9_check_35 ?_
        exact hQ _ _ ⟨by rw [F_check, if_neg (fun hh => hh hn), if_pos hz], r79, r78, hm0⟩
      refine jr_aload_n dX9_check_0 rfl ?_
      refine gfX9_313 dX9_check_1 (hw.k rfl) ?_
      rw [h30]
      refine jr_istore_2 dX9_check_4 (by decide) rfl ?_
      refine jr_aload_n dX9_check_5 rfl ?_
      refine jr_iconst (0) dX9_check_6 (by decide) ?_
      refine pfX9_313 dX9_check_7 (hw.k rfl) ?_
      rw [← e0]
      refine jr_iload_n dX9_check_10 rfl ?_
      refine jr_i2l dX9_check_11 ?_
      refine jr_lconst 1 dX9_check_12 (by decide) ?_
      refine jr_ldc2 (30) ckX9_316 dX9_check_13 ?_
      refine jc_Si (c_isInI g _ _ _ _) lkX9_68 rfl rfl (Nat.le_of_ble_eq_true rfl) (Nat.le_of_ble_eq_true rfl) dX9_check_16 (fun r_16 w_16 h_16 => ?_)
      obtain ⟨rfl, rfl⟩ := h_16
      refine jr_if_ne 25 dX9_check_19 (by decide) (fun c_19 => ?_) (fun c_19 => ?_)
      · rw [jb_1] at c_19
        simp only [Int64.reduceToInt] at c_19
        exact h9
      · rw [jb_0] at c_19
        simp only [Int64.reduceToInt] at c_19
        refine jr_ldc (-1000000001) ckX9_83 dX9_check_22 ?_
        refine jr_iret rfl dX9_check_24 ?_
        exfalso; unfold inR at hn; omega
    · obtain ⟨hG, h99⟩ := hI hz
      obtain ⟨n0, hn0, en⟩ := i_of (n := 31) (x := n) (by unfold inR at hn; omega) (by unfold inR at hn; omega)
      subst en
      obtain ⟨m, em⟩ : ∃ m, m = min n0 (9999 - sN im 2) := ⟨_, rfl⟩
      have eF : F_check (wI w 78 3) W (wI w 96) im (nI n0) = if chK W m (wI w 96) im = W ∧ chK W m (wI w 96) im = 2 * m then 0 else nI (1 + chK W m (wI w 96) im) := by
        rw [F_check, if_neg (fun hh => hh hn), if_neg hz, nI_clamp (by omega), ← em]
      have eW : (nI W).toInt = (W : Int) := i_nI (by omega)
      have e2 : (nI (2 * m)).toInt = ((2 * m : Nat) : Int) := i_nI (by omega)
      have L2 : ∀ (w3 : Wd), wI w3 79 = s → (∀ j, j < 2 * m → wI w3 97 j = duR im j) → Sm scP w0 w3 → ∀ f i, f + i = 61 → (∀ j, j < i → chB W m (wI w 96) im j = false) → RR g RX9 cX9_check 5 (some .int) "check" 7 0 0 0 0 138 [some (.ref (gb g + 78)), some (.int (nI n0)), some (.int (nI W)), some (.int (nI (2 * m))), some (.int (nI i))] [] w3 Q := by
        intro w3 hr hd hS f
        have hw3 := hS.wf hw0
        induction f with
        | zero =>
          intro i hi hp
          exact absurd (hp 60 (by omega)) (by rw [chB, decide_eq_true (Or.inl hW)]; decide)
        | succ f ih =>
          intro i hi hp
          have ei : (nI i).toInt = (i : Int) := i_nI (by omega)
          have fin : ∀ r, chB W m (wI w 96) im i = true → r = (if i = W ∧ i = 2 * m then 0 else nI (1 + i)) → Q (some (.int r)) w3 := by
            intro r hpi er
            have ek : chK W m (wI w 96) im = i := fstB_at hp hpi (by omega)
            exact hQ _ _ ⟨by rw [eF, ek, er], hr, (hS.row (scP_no (by decide))).trans r78, hm0.tr (hS.mono (fun _ q => Or.inl q))⟩
          refine jr_iload dX9_check_138 rfl ?_
          refine jr_iload_n dX9_check_140 rfl ?_
          refine jr_icmp_ge 173 dX9_check_141 (by decide) (fun c_141 => ?_) (fun c_141 => ?_)
          · simp only [lt_i, le_i, eq_i, Int32.reduceToInt] at c_141
            refine jr_iload dX9_check_173 rfl ?_
            refine jr_iload_n dX9_check_175 rfl ?_
            refine jr_icmp_ne 189 dX9_check_176 (by decide) (fun c_176 => ?_) (fun c_176 => ?_)
            · simp only [lt_i, le_i, eq_i, Int32.reduceToInt] at c_176
              refine jr_iconst (1) dX9_check_189 (by decide) ?_
              refine jr_iload dX9_check_190 rfl ?_
              refine jr_iadd dX9_check_192 ?_
              refine jr_iret rfl dX9_check_193 ?_
              refine fin _ (decide_eq_true ?_) ?_
              · first | exact Or.inl (by omega) | exact Or.inr (Or.inl (by omega)) | exact Or.inr (Or.inr c_164)
              · first | (rw [if_pos (show i = W ∧ i = 2 * m by omega)]; done) | (rw [if_neg (show ¬ (i = W ∧ i = 2 * m) by omega), jlit 1, nI_add]; done)
            · simp only [lt_i, le_i, eq_i, Int32.reduceToInt] at c_176
              refine jr_iload dX9_check_179 rfl ?_
              refine jr_iload_n dX9_check_181 rfl ?_
              refine jr_icmp_ne 189 dX9_check_182 (by decide) (fun c_182 => ?_) (fun c_182 => ?_)
              · simp only [lt_i, le_i, eq_i, Int32.reduceToInt] at c_182
                refine jr_iconst (1) dX9_check_189 (by decide) ?_
                refine jr_iload dX9_check_190 rfl ?_
                refine jr_iadd dX9_check_192 ?_
                refine jr_iret rfl dX9_check_193 ?_
                refine fin _ (decide_eq_true ?_) ?_
                · first | exact Or.inl (by omega) | exact Or.inr (Or.inl (by omega)) | exact Or.inr (Or.inr c_164)
                · first | (rw [if_pos (show i = W ∧ i = 2 * m by omega)]; done) | (rw [if_neg (show ¬ (i = W ∧ i = 2 * m) by omega), jlit 1, nI_add]; done)
              · simp only [lt_i, le_i, eq_i, Int32.reduceToInt] at c_182
                refine jr_iconst (0) dX9_check_185 (by decide) ?_
                refine jr_goto 193 dX9_check_186 (by decide) ?_
                refine jr_iret rfl dX9_check_193 ?_
                refine fin _ (decide_eq_true ?_) ?_
                · first | exact Or.inl (by omega) | exact Or.inr (Or.inl (by omega)) | exact Or.inr (Or.inr c_164)
                · first | (rw [if_pos (show i = W ∧ i = 2 * m by omega)]; done) | (rw [if_neg (show ¬ (i = W ∧ i = 2 * m) by omega), jlit 1, nI_add]; done)
          · simp only [lt_i, le_i, eq_i, Int32.reduceToInt] at c_141
            refine jr_iload dX9_check_144 rfl ?_
            refine jr_iload_n dX9_check_146 rfl ?_
            refine jr_icmp_ge 173 dX9_check_147 (by decide) (fun c_147 => ?_) (fun c_147 => ?_)
            · simp only [lt_i, le_i, eq_i, Int32.reduceToInt] at c_147
              refine jr_iload dX9_check_173 rfl ?_
              refine jr_iload_n dX9_check_175 rfl ?_
              refine jr_icmp_ne 189 dX9_check_176 (by decide) (fun c_176 => ?_) (fun c_176 => ?_)
              · simp only [lt_i, le_i, eq_i, Int32.reduceToInt] at c_176
                refine jr_iconst (1) dX9_check_189 (by decide) ?_
                refine jr_iload dX9_check_190 rfl ?_
                refine jr_iadd dX9_check_192 ?_
                refine jr_iret rfl dX9_check_193 ?_
                refine fin _ (decide_eq_true ?_) ?_
                · first | exact Or.inl (by omega) | exact Or.inr (Or.inl (by omega)) | exact Or.inr (Or.inr c_164)
                · first | (rw [if_pos (show i = W ∧ i = 2 * m by omega)]; done) | (rw [if_neg (show ¬ (i = W ∧ i = 2 * m) by omega), jlit 1, nI_add]; done)
              · simp only [lt_i, le_i, eq_i, Int32.reduceToInt] at c_176
                refine jr_iload dX9_check_179 rfl ?_
                refine jr_iload_n dX9_check_181 rfl ?_
                refine jr_icmp_ne 189 dX9_check_182 (by decide) (fun c_182 => ?_) (fun c_182 => ?_)
                · simp only [lt_i, le_i, eq_i, Int32.reduceToInt] at c_182
                  refine jr_iconst (1) dX9_check_189 (by decide) ?_
                  refine jr_iload dX9_check_190 rfl ?_
                  refine jr_iadd dX9_check_192 ?_
                  refine jr_iret rfl dX9_check_193 ?_
                  refine fin _ (decide_eq_true ?_) ?_
                  · first | exact Or.inl (by omega) | exact Or.inr (Or.inl (by omega)) | exact Or.inr (Or.inr c_164)
                  · first | (rw [if_pos (show i = W ∧ i = 2 * m by omega)]; done) | (rw [if_neg (show ¬ (i = W ∧ i = 2 * m) by omega), jlit 1, nI_add]; done)
                · simp only [lt_i, le_i, eq_i, Int32.reduceToInt] at c_182
                  refine jr_iconst (0) dX9_check_185 (by decide) ?_
                  refine jr_goto 193 dX9_check_186 (by decide) ?_
                  refine jr_iret rfl dX9_check_193 ?_
                  refine fin _ (decide_eq_true ?_) ?_
                  · first | exact Or.inl (by omega) | exact Or.inr (Or.inl (by omega)) | exact Or.inr (Or.inr c_164)
                  · first | (rw [if_pos (show i = W ∧ i = 2 * m by omega)]; done) | (rw [if_neg (show ¬ (i = W ∧ i = 2 * m) by omega), jlit 1, nI_add]; done)
            · simp only [lt_i, le_i, eq_i, Int32.reduceToInt] at c_147
              refine jr_aload_n dX9_check_150 rfl ?_
              refine gfX9_61 96 dX9_check_151 (hw3.k rfl) (hw3.f rfl) ?_
              refine jr_iload dX9_check_154 rfl ?_
              refine jr_iald i (hw3.k rfl) rfl ⟨by omega, by decide⟩ dX9_check_156 ?_
              rw [hS.row (scP_no (by decide)), r96]
              refine jr_aload_n dX9_check_157 rfl ?_
              refine gfX9_64 97 dX9_check_158 (hw3.k rfl) (hw3.f rfl) ?_
              refine jr_iload dX9_check_161 rfl ?_
              refine jr_iald i (hw3.k rfl) rfl ⟨by omega, by decide⟩ dX9_check_163 ?_
              rw [hd i (by omega)]
              refine jr_icmp_ne 173 dX9_check_164 (by decide) (fun c_164 => ?_) (fun c_164 => ?_)
              · refine jr_iload dX9_check_173 rfl ?_
                refine jr_iload_n dX9_check_175 rfl ?_
                refine jr_icmp_ne 189 dX9_check_176 (by decide) (fun c_176 => ?_) (fun c_176 => ?_)
                · simp only [lt_i, le_i, eq_i, Int32.reduceToInt] at c_176
                  refine jr_iconst (1) dX9_check_189 (by decide) ?_
                  refine jr_iload dX9_check_190 rfl ?_
                  refine jr_iadd dX9_check_192 ?_
                  refine jr_iret rfl dX9_check_193 ?_
                  refine fin _ (decide_eq_true ?_) ?_
                  · first | exact Or.inl (by omega) | exact Or.inr (Or.inl (by omega)) | exact Or.inr (Or.inr c_164)
                  · first | (rw [if_pos (show i = W ∧ i = 2 * m by omega)]; done) | (rw [if_neg (show ¬ (i = W ∧ i = 2 * m) by omega), jlit 1, nI_add]; done)
                · simp only [lt_i, le_i, eq_i, Int32.reduceToInt] at c_176
                  refine jr_iload dX9_check_179 rfl ?_
                  refine jr_iload_n dX9_check_181 rfl ?_
                  refine jr_icmp_ne 189 dX9_check_182 (by decide) (fun c_182 => ?_) (fun c_182 => ?_)
                  · simp only [lt_i, le_i, eq_i, Int32.reduceToInt] at c_182
                    refine jr_iconst (1) dX9_check_189 (by decide) ?_
                    refine jr_iload dX9_check_190 rfl ?_
                    refine jr_iadd dX9_check_192 ?_
                    refine jr_iret rfl dX9_check_193 ?_
                    refine fin _ (decide_eq_true ?_) ?_
                    · first | exact Or.inl (by omega) | exact Or.inr (Or.inl (by omega)) | exact Or.inr (Or.inr c_164)
                    · first | (rw [if_pos (show i = W ∧ i = 2 * m by omega)]; done) | (rw [if_neg (show ¬ (i = W ∧ i = 2 * m) by omega), jlit 1, nI_add]; done)
                  · simp only [lt_i, le_i, eq_i, Int32.reduceToInt] at c_182
                    refine jr_iconst (0) dX9_check_185 (by decide) ?_
                    refine jr_goto 193 dX9_check_186 (by decide) ?_
                    refine jr_iret rfl dX9_check_193 ?_
                    refine fin _ (decide_eq_true ?_) ?_
                    · first | exact Or.inl (by omega) | exact Or.inr (Or.inl (by omega)) | exact Or.inr (Or.inr c_164)
                    · first | (rw [if_pos (show i = W ∧ i = 2 * m by omega)]; done) | (rw [if_neg (show ¬ (i = W ∧ i = 2 * m) by omega), jlit 1, nI_add]; done)
              · refine jr_iinc_4 (nI (i + 1)) dX9_check_167 (inc1 i) (by decide) rfl ?_
                refine jr_goto 138 dX9_check_170 (by decide) ?_
                refine ih (i + 1) (by omega) (fun j hj => ?_)
                by_cases e : j = i
                · rw [e]; exact decide_eq_false (fun hh => hh.elim (fun h1 => by omega) (fun h1 => h1.elim (fun h2 => by omega) (fun h2 => h2 c_164)))
                · exact hp j (by omega)
      have L1 : ∀ (f i : Nat) (w2 : Wd), f + i = m → wI w2 79 = goM im i → wI w2 81 = asR s (wI w 81) → (∀ j, j < 2 * i → wI w2 97 j = duR im j) → Sm scP w0 w2 → RR g RX9 cX9_check 5 (some .int) "check" 7 0 0 0 0 65 [some (.ref (gb g + 78)), some (.int (nI n0)), some (.int (nI W)), some (.int (nI (2 * i))), some (.int (nI i))] [] w2 Q := by
        intro f
        induction f with
        | zero =>
          intro i w2 hi hr ha hd hS
          have e9 : i = m := by omega
          subst e9
          have hw2 := hS.wf hw0
          have em2 := (Gd_goM hG i (by omega)).2
          have h9 : RR g RX9 cX9_check 5 (some .int) "check" 7 0 0 0 0 123 [some (.ref (gb g + 78)), some (.int (nI n0)), some (.int (nI W)), some (.int (nI (2 * i))), some (.int (nI i))] [] w2 Q := by
            refine jr_aload_n dX9_check_123 rfl ?_
            refine jr_aload_n dX9_check_124 rfl ?_
            refine gfX9_16 81 dX9_check_125 (hw2.k rfl) (hw2.f rfl) ?_
            refine jr_aload_n dX9_check_128 rfl ?_
            refine gfX9_7 79 dX9_check_129 (hw2.k rfl) (hw2.f rfl) ?_
            refine jc_Vv (c_setAside g _ hw2 81 79 (hw2.k rfl) (hw2.k rfl) (by decide)) lkX9_322 (hw2.k rfl) rfl rfl (Nat.le_of_ble_eq_true rfl) (Nat.le_of_ble_eq_true rfl) dX9_check_132 (fun w_132 h_132 => ?_)
            obtain rfl := h_132
            refine jr_iconst (0) dX9_check_135 (by decide) ?_
            refine jr_istore_4 dX9_check_136 (by decide) rfl ?_
            refine L2 _ ?_ ?_ (hS.tr (Sm.sR (Or.inl rfl))) 61 0 rfl (fun j hj => absurd hj (by omega))
            · rw [wI_sR_s, ha, hr, eim, asR_b]
            · intro j hj; rw [wI_sR_n _ (by decide)]; exact hd j hj
          obtain ⟨-, -, hmi, -⟩ := id (Gd_goM hG i (by omega)).1
          by_cases hin : n0 ≤ i
          · refine jr_iload dX9_check_65 rfl ?_
            refine jr_iload_n dX9_check_67 rfl ?_
            refine jr_icmp_ge 123 dX9_check_68 (by decide) (fun c_68 => ?_) (fun c_68 => absurd (nI_le hin (by omega)) c_68)
            exact h9
          · refine jr_iload dX9_check_65 rfl ?_
            refine jr_iload_n dX9_check_67 rfl ?_
            refine jr_icmp_ge 123 dX9_check_68 (by decide) (fun c_68 => absurd c_68 (nI_ge (by omega) (by omega))) (fun c_68 => ?_)
            refine jr_aload_n dX9_check_71 rfl ?_
            refine gfX9_7 79 dX9_check_72 (hw2.k rfl) (hw2.f rfl) ?_
            refine jr_iconst (2) dX9_check_75 (by decide) ?_
            refine jr_iald 2 (hw2.k rfl) rfl (by decide) dX9_check_76 ?_
            rw [hr, hmi.1, em2]
            refine jr_sipush (9999) dX9_check_77 (by decide) ?_
            refine jr_icmp_ge 123 dX9_check_80 (by decide) (fun c_80 => ?_) (fun c_80 => absurd (by rw [jlit 9999]; exact nI_le (by omega) (by omega)) c_80)
            exact h9
        | succ f ih =>
          intro i w2 hi hr ha hd hS
          have hw2 := hS.wf hw0
          have hGi := (Gd_goM hG i (by omega)).1
          have em2 := (Gd_goM hG i (by omega)).2
          obtain ⟨-, -, hmi, -⟩ := id hGi
          have h87 : ∀ (w4 : Wd), wI w4 79 = goM im (i + 1) → wI w4 81 = asR s (wI w 81) → (∀ j, j < 2 * i → wI w4 97 j = duR im j) → Sm scP w0 w4 → RR g RX9 cX9_check 5 (some .int) "check" 7 0 0 0 0 87 [some (.ref (gb g + 78)), some (.int (nI n0)), some (.int (nI W)), some (.int (nI (2 * i))), some (.int (nI i))] [] w4 Q := by
            intro w4 k79 k81 kd kS
            have hw4 := kS.wf hw0
            refine jr_aload_n dX9_check_87 rfl ?_
            refine gfX9_64 97 dX9_check_88 (hw4.k rfl) (hw4.f rfl) ?_
            refine jr_iload_n dX9_check_91 rfl ?_
            refine jr_aload_n dX9_check_92 rfl ?_
            refine gfX9_7 79 dX9_check_93 (hw4.k rfl) (hw4.f rfl) ?_
            refine jr_iconst (3) dX9_check_96 (by decide) ?_
            refine jr_iald 3 (hw4.k rfl) rfl (by decide) dX9_check_97 ?_
            rw [k79]
            refine jr_iast (2 * i) (hw4.k rfl) rfl ⟨by omega, by decide⟩ dX9_check_98 ?_
            refine jr_aload_n dX9_check_99 rfl ?_
            refine gfX9_64 97 dX9_check_100 (hw4.k rfl) (hw4.f rfl) ?_
            refine jr_iload_n dX9_check_103 rfl ?_
            refine jr_iconst (1) dX9_check_104 (by decide) ?_
            refine jr_iadd dX9_check_105 ?_
            refine jr_aload_n dX9_check_106 rfl ?_
            refine gfX9_7 79 dX9_check_107 (hw4.k rfl) (hw4.f rfl) ?_
            refine jr_bipush (28) dX9_check_110 (by decide) ?_
            refine jr_iald 28 (hw4.k rfl) rfl (by decide) dX9_check_112 ?_
            rw [wI_sR_n _ (by decide), k79]
            refine jr_iast (2 * i + 1) (hw4.k rfl) (by rw [jlit 1, nI_add]) ⟨by omega, by decide⟩ dX9_check_113 ?_
            refine jr_iinc_3 (nI (2 * (i + 1))) dX9_check_114 (by rw [show Int32.ofInt 2 = nI 2 from rfl, nI_add, show 2 * i + 2 = 2 * (i + 1) by omega]) (by decide) rfl ?_
            refine jr_iinc_4 (nI (i + 1)) dX9_check_117 (inc1 i) (by decide) rfl ?_
            refine jr_goto 65 dX9_check_120 (by decide) ?_
            refine ih (i + 1) _ (by omega) ?_ ?_ ?_ ((kS.tr (Sm.sR (by unfold scP; omega))).tr (Sm.sR (by unfold scP; omega)))
            · rw [wI_sR_n _ (by decide), wI_sR_n _ (by decide)]; exact k79
            · rw [wI_sR_n _ (by decide), wI_sR_n _ (by decide)]; exact k81
            · intro j hj
              rw [wI_sR_s]
              by_cases e1 : j = 2 * i + 1
              · rw [e1, pk_us, duR_o]
              · rw [pk_un e1, wI_sR_s]
                by_cases e2 : j = 2 * i
                · rw [e2, pk_us, duR_e]
                · rw [pk_un e2, kd j (by omega)]
          refine jr_iload dX9_check_65 rfl ?_
          refine jr_iload_n dX9_check_67 rfl ?_
          refine jr_icmp_ge 123 dX9_check_68 (by decide) (fun c_68 => absurd c_68 (nI_ge (by omega) (by omega))) (fun c_68 => ?_)
          refine jr_aload_n dX9_check_71 rfl ?_
          refine gfX9_7 79 dX9_check_72 (hw2.k rfl) (hw2.f rfl) ?_
          refine jr_iconst (2) dX9_check_75 (by decide) ?_
          refine jr_iald 2 (hw2.k rfl) rfl (by decide) dX9_check_76 ?_
          rw [hr, hmi.1, em2]
          refine jr_sipush (9999) dX9_check_77 (by decide) ?_
          refine jr_icmp_ge 123 dX9_check_80 (by decide) (fun c_80 => absurd c_80 (by rw [jlit 9999]; exact nI_ge (by omega) (by omega))) (fun c_80 => ?_)
          refine jr_aload_n dX9_check_83 rfl ?_
          refine jc_Vv (c_goesOn g _ hw2 _ hr hGi) lkX9_144 (hw2.k rfl) rfl rfl (Nat.le_of_ble_eq_true rfl) (Nat.le_of_ble_eq_true rfl) dX9_check_84 (fun w_84 h_84 => ?_)
          obtain ⟨hr2, hS2⟩ := h_84
          exact h87 _ hr2 ((hS2.row (scS_n (by decide) (by decide))).trans ha) (fun j hj => by rw [hS2.row (show ¬ scS 97 by unfold scS; omega)]; exact hd j hj) (hS.tr (hS2.mono (fun _ q => scS_P q)))
      have r81 : wI w0 81 = wI w 81 := by rw [e0, wI_sR_n _ (by decide)]
      have h25 : RR g RX9 cX9_check 5 (some .int) "check" 7 0 0 0 0 25 [some (.ref (gb g + 78)), some (.int (nI n0)), some (.int (nI W)), none, none] [] w0 Q := by
        refine jr_aload_n dX9_check_25 rfl ?_
        refine gfX9_318 dX9_check_26 (hw0.k rfl) ?_
        rw [r78, pk_un (by decide)]
        refine jr_if_ne 36 dX9_check_29 (by decide) (fun c_29 => ?_) (fun c_29 => absurd c_29 hz)
        refine jr_aload_n dX9_check_36 rfl ?_
        refine jr_aload_n dX9_check_37 rfl ?_
        refine gfX9_7 79 dX9_check_38 (hw0.k rfl) (hw0.f rfl) ?_
        refine jr_aload_n dX9_check_41 rfl ?_
        refine gfX9_16 81 dX9_check_42 (hw0.k rfl) (hw0.f rfl) ?_
        refine jc_Vv (c_setAside g _ hw0 79 81 (hw0.k rfl) (hw0.k rfl) (by decide)) lkX9_322 (hw0.k rfl) rfl rfl (Nat.le_of_ble_eq_true rfl) (Nat.le_of_ble_eq_true rfl) dX9_check_45 (fun w_45 h_45 => ?_)
        obtain rfl := h_45
        refine jr_aload_n dX9_check_48 rfl ?_
        refine jr_aload_n dX9_check_49 rfl ?_
        refine gfX9_13 80 dX9_check_50 (hw0.k rfl) (hw0.f rfl) ?_
        refine jr_aload_n dX9_check_53 rfl ?_
        refine gfX9_7 79 dX9_check_54 (hw0.k rfl) (hw0.f rfl) ?_
        refine jc_Vv (c_setAside g _ (by exact hw0) 80 79 (hw0.k rfl) (hw0.k rfl) (by decide)) lkX9_322 (hw0.k rfl) rfl rfl (Nat.le_of_ble_eq_true rfl) (Nat.le_of_ble_eq_true rfl) dX9_check_57 (fun w_57 h_57 => ?_)
        obtain rfl := h_57
        refine jr_iconst (0) dX9_check_60 (by decide) ?_
        refine jr_istore_3 dX9_check_61 (by decide) rfl ?_
        refine jr_iconst (0) dX9_check_62 (by decide) ?_
        refine jr_istore_4 dX9_check_63 (by decide) rfl ?_
        refine L1 m 0 _ rfl ?_ ?_ (fun j hj => absurd hj (by omega)) ((Sm.sR (by unfold scP; omega)).tr (Sm.sR (by unfold scP; omega)))
        · rw [wI_sR_s, wI_sR_n _ (by decide), wI_sR_n _ (by decide), r80, r79]; exact eim.symm
        · rw [wI_sR_n _ (by decide), wI_sR_s, r79, r81]
      refine jr_aload_n dX9_check_0 rfl ?_
      refine gfX9_313 dX9_check_1 (hw.k rfl) ?_
      rw [h30]
      refine jr_istore_2 dX9_check_4 (by decide) rfl ?_
      refine jr_aload_n dX9_check_5 rfl ?_
      refine jr_iconst (0) dX9_check_6 (by decide) ?_
      refine pfX9_313 dX9_check_7 (hw.k rfl) ?_
      rw [← e0]
      refine jr_iload_n dX9_check_10 rfl ?_
      refine jr_i2l dX9_check_11 ?_
      refine jr_lconst 1 dX9_check_12 (by decide) ?_
      refine jr_ldc2 (30) ckX9_316 dX9_check_13 ?_
      refine jc_Si (c_isInI g _ _ _ _) lkX9_68 rfl rfl (Nat.le_of_ble_eq_true rfl) (Nat.le_of_ble_eq_true rfl) dX9_check_16 (fun r_16 w_16 h_16 => ?_)
      obtain ⟨rfl, rfl⟩ := h_16
      refine jr_if_ne 25 dX9_check_19 (by decide) (fun c_19 => ?_) (fun c_19 => ?_)
      · rw [jb_1] at c_19
        simp only [Int64.reduceToInt] at c_19
        exact h25
      · rw [jb_0] at c_19
        simp only [Int64.reduceToInt] at c_19
        refine jr_ldc (-1000000001) ckX9_83 dX9_check_22 ?_
        refine jr_iret rfl dX9_check_24 ?_
        exfalso; unfold inR at hn; omega
  · refine jr_aload_n dX9_check_0 rfl ?_
    refine gfX9_313 dX9_check_1 (hw.k rfl) ?_
    rw [h30]
    refine jr_istore_2 dX9_check_4 (by decide) rfl ?_
    refine jr_aload_n dX9_check_5 rfl ?_
    refine jr_iconst (0) dX9_check_6 (by decide) ?_
    refine pfX9_313 dX9_check_7 (hw.k rfl) ?_
    rw [← e0]
    refine jr_iload_n dX9_check_10 rfl ?_
    refine jr_i2l dX9_check_11 ?_
    refine jr_lconst 1 dX9_check_12 (by decide) ?_
    refine jr_ldc2 (30) ckX9_316 dX9_check_13 ?_
    refine jc_Si (c_isInI g _ _ _ _) lkX9_68 rfl rfl (Nat.le_of_ble_eq_true rfl) (Nat.le_of_ble_eq_true rfl) dX9_check_16 (fun r_16 w_16 h_16 => ?_)
    obtain ⟨rfl, rfl⟩ := h_16
    refine jr_if_ne 25 dX9_check_19 (by decide) (fun c_19 => ?_) (fun c_19 => ?_)
    · rw [jb_1] at c_19
      simp only [Int64.reduceToInt] at c_19
      exfalso; unfold inR at hn; omega
    · rw [jb_0] at c_19
      simp only [Int64.reduceToInt] at c_19
      refine jr_ldc (-1000000001) ckX9_83 dX9_check_22 ?_
      refine jr_iret rfl dX9_check_24 ?_
      exact hQ _ _ ⟨by rw [F_check, if_pos hn], r79, r78, hm0⟩
