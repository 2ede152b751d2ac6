-- the reference: telling, slots, check
/-- telling: the run of likes at a distance, and the longest that counts -/
def tlI (T : Nat → Nat) (ap m0 : Nat) : Nat → Nat × Nat
  | 0 => (0, m0)
  | i + 1 =>
    (if T ((660 + i) % 720) = T ((660 + i - ap) % 720) then (tlI T ap m0 i).1 + 1 else 0,
     if 720 ≤ 660 + i ∧ ¬ (660 + i) % 720 / 60 = (660 + i - ap) % 720 / 60 ∧ (tlI T ap m0 i).2 < (if T ((660 + i) % 720) = T ((660 + i - ap) % 720) then (tlI T ap m0 i).1 + 1 else 0) then (if T ((660 + i) % 720) = T ((660 + i - ap) % 720) then (tlI T ap m0 i).1 + 1 else 0) else (tlI T ap m0 i).2)
def tlA (T : Nat → Nat) : Nat → Nat
  | 0 => 0
  | a + 1 => (tlI T (a + 1) (tlA T a) 780).2
theorem tlI_le (T : Nat → Nat) (ap m0 : Nat) : ∀ i, (tlI T ap m0 i).1 ≤ i ∧ ((tlI T ap m0 i).2 ≤ max m0 i)
  | 0 => ⟨Nat.le_refl _, by simp only [tlI]; omega⟩
  | i + 1 => by
    obtain ⟨h1, h2⟩ := tlI_le T ap m0 i
    simp only [tlI]
    refine ⟨by split <;> omega, ?_⟩
    repeat' split
    all_goals omega
theorem tlA_le (T : Nat → Nat) : ∀ a, tlA T a ≤ 780
  | 0 => by simp only [tlA]; omega
  | a + 1 => by
    have h1 := tlA_le T a
    have h2 := (tlI_le T (a + 1) (tlA T a) 780).2
    simp only [tlA]
    omega
def F_telling (s : Nat → Int32) : Int32 := if tlA (totT s) 360 < 60 then nI (tlA (totT s) 360 + 1) else -1000000005
theorem m_telling (g : Cx) (w : Wd) (hw : Wf w) (s : Nat → Int32) (hs : wI w 79 = s) (hG : Gd s) : CI g yX9_telling cX9_telling 8 (some .int) 7 0 0 [.ref (gb g + 78)] w (fun r w' => r = F_telling s ∧ MS w w' s) := by
  have hT1 : ∀ t, totT s t ≤ 1000 := tot_1000 hG
  refine CI.of (own := RX9) (nm := "telling") (lv := [some (.ref (gb g + 78)), none, none, none, none, none, none, none]) (by decide) rfl rfl (Nat.le_of_ble_eq_true rfl) rfl (fun Q hQ => ?_)
  have L2 : ∀ (w1 : Wd), Sm scA w w1 → AllR (wI w1 90) (totT s) → ∀ (ap : Nat), 1 ≤ ap → ap ≤ 360 → ∀ (m0 : Nat), m0 ≤ 780 → ∀ (K : ∀ (r : Int32) (a5 a6 a7 : Option Value), RR g RX9 cX9_telling 8 (some .int) "telling" 7 0 0 0 0 123 [some (.ref (gb g + 78)), some (.int (nI (tlI (totT s) ap m0 780).2)), some (.int (nI ap)), some (.int r), some (.int (nI 1440)), a5, a6, a7] [] w1 Q) (f i : Nat) (a5 a6 a7 : Option Value), f + i = 780 → RR g RX9 cX9_telling 8 (some .int) "telling" 7 0 0 0 0 22 [some (.ref (gb g + 78)), some (.int (nI (tlI (totT s) ap m0 i).2)), some (.int (nI ap)), some (.int (nI (tlI (totT s) ap m0 i).1)), some (.int (nI (660 + i))), a5, a6, a7] [] w1 Q := by
    intro w1 hS hA ap h1 h2 m0 hm0 K f
    have hw1 := hS.wf hw
    induction f with
    | zero =>
      intro i a5 a6 a7 hi
      have e : i = 780 := by omega
      subst e
      refine jr_iload dX9_telling_22 rfl ?_
      refine jr_sipush (1440) dX9_telling_24 (by decide) ?_
      refine jr_icmp_ge 123 dX9_telling_27 (by decide) (fun c_27 => ?_) (fun c_27 => absurd (by decide) c_27)
      exact K _ _ _ _
    | succ f ih =>
      intro i a5 a6 a7 hi
      obtain ⟨hl1, hl2⟩ := tlI_le (totT s) ap m0 i
      have hx : nI (660 + i) - nI (660 + i) / 720 * 720 = nI ((660 + i) % 720) := pk_rem (by omega) (by decide) (by decide)
      have hy : nI (660 + i) - nI ap - (nI (660 + i) - nI ap) / 720 * 720 = nI ((660 + i - ap) % 720) := by rw [pk_sub (by omega), jlit 720, pk_rem (by omega) (by decide) (by decide)]
      have hlx : (660 + i) % 720 < 720 := Nat.mod_lt _ (by decide)
      have hly : (660 + i - ap) % 720 < 720 := Nat.mod_lt _ (by decide)
      have hd1 : nI ((660 + i) % 720) / 60 = nI ((660 + i) % 720 / 60) := pk_div (by omega) (by decide) (by decide)
      have hd2 : nI ((660 + i - ap) % 720) / 60 = nI ((660 + i - ap) % 720 / 60) := pk_div (by omega) (by decide) (by decide)
      have e1 := i_nI (n := (660 + i) % 720 / 60) (by omega)
      have e2 := i_nI (n := (660 + i - ap) % 720 / 60) (by omega)
      have e3 := i_nI (n := 660 + i) (by omega)
      have hT2 := hT1 ((660 + i) % 720)
      have hT3 := hT1 ((660 + i - ap) % 720)
      have e4 := i_nI (n := totT s ((660 + i) % 720)) (by omega)
      have e5 := i_nI (n := totT s ((660 + i - ap) % 720)) (by omega)
      have e6 := i_nI (n := (tlI (totT s) ap m0 i).2) (by omega)
      have K72 : ∀ (rn : Nat) (er : rn = if totT s ((660 + i) % 720) = totT s ((660 + i - ap) % 720) then (tlI (totT s) ap m0 i).1 + 1 else 0) (a7 : Option Value), RR g RX9 cX9_telling 8 (some .int) "telling" 7 0 0 0 0 72 [some (.ref (gb g + 78)), some (.int (nI (tlI (totT s) ap m0 i).2)), some (.int (nI ap)), some (.int (nI (tlI (totT s) ap m0 i).1)), some (.int (nI (660 + i))), some (.int (nI ((660 + i) % 720))), some (.int (nI ((660 + i - ap) % 720))), a7] [.int (nI rn)] w1 Q := by
        intro rn er a7
        have hrn : rn ≤ 781 := by rw [er]; split <;> omega
        have e7 := i_nI (n := rn) (by omega)
        have hq1 : (tlI (totT s) ap m0 (i + 1)).1 = rn := by rw [er]; rfl
        have hq2 : (tlI (totT s) ap m0 (i + 1)).2 = if 720 ≤ 660 + i ∧ ¬ (660 + i) % 720 / 60 = (660 + i - ap) % 720 / 60 ∧ (tlI (totT s) ap m0 i).2 < rn then rn else (tlI (totT s) ap m0 i).2 := by rw [er]; rfl
        refine jr_istore_3 dX9_telling_72 (by decide) rfl ?_
        refine jr_iload dX9_telling_73 rfl ?_
        refine jr_sipush (720) dX9_telling_75 (by decide) ?_
        refine jr_icmp_lt 103 dX9_telling_78 (by decide) (fun c_78 => ?_) (fun c_78 => ?_)
        · simp only [lt_i, le_i, eq_i, Int32.reduceToInt] at c_78
          refine jr_iconst (0) dX9_telling_103 (by decide) ?_
          refine jr_istore_7 dX9_telling_104 (by decide) rfl ?_
          refine jr_iload dX9_telling_106 rfl ?_
          refine jr_if_eq 115 dX9_telling_108 (by decide) (fun c_108 => ?_) (fun c_108 => absurd (by decide) c_108)
          refine jr_iload_n dX9_telling_115 rfl ?_
          refine jr_istore_1 dX9_telling_116 (by decide) rfl ?_
          refine jr_iinc_4 (nI (660 + (i + 1))) dX9_telling_117 (inc1 _) (by decide) rfl ?_
          refine jr_goto 22 dX9_telling_120 (by decide) ?_
          have h9 := fun x => ih (i + 1) (some (.int (nI ((660 + i) % 720)))) (some (.int (nI ((660 + i - ap) % 720)))) (some (.int x)) (by omega)
          rw [hq1, hq2] at h9
          first | (rw [if_pos (by omega)] at h9; exact h9 _) | (rw [if_neg (by omega)] at h9; exact h9 _)
        · simp only [lt_i, le_i, eq_i, Int32.reduceToInt] at c_78
          refine jr_iload dX9_telling_81 rfl ?_
          refine jr_bipush (60) dX9_telling_83 (by decide) ?_
          refine jr_idiv dX9_telling_85 (by decide) ?_
          rw [hd1]
          refine jr_iload dX9_telling_86 rfl ?_
          refine jr_bipush (60) dX9_telling_88 (by decide) ?_
          refine jr_idiv dX9_telling_90 (by decide) ?_
          rw [hd2]
          refine jr_icmp_eq 103 dX9_telling_91 (by decide) (fun c_91 => ?_) (fun c_91 => ?_)
          · simp only [lt_i, le_i, eq_i, Int32.reduceToInt] at c_91
            refine jr_iconst (0) dX9_telling_103 (by decide) ?_
            refine jr_istore_7 dX9_telling_104 (by decide) rfl ?_
            refine jr_iload dX9_telling_106 rfl ?_
            refine jr_if_eq 115 dX9_telling_108 (by decide) (fun c_108 => ?_) (fun c_108 => absurd (by decide) c_108)
            refine jr_iload_n dX9_telling_115 rfl ?_
            refine jr_istore_1 dX9_telling_116 (by decide) rfl ?_
            refine jr_iinc_4 (nI (660 + (i + 1))) dX9_telling_117 (inc1 _) (by decide) rfl ?_
            refine jr_goto 22 dX9_telling_120 (by decide) ?_
            have h9 := fun x => ih (i + 1) (some (.int (nI ((660 + i) % 720)))) (some (.int (nI ((660 + i - ap) % 720)))) (some (.int x)) (by omega)
            rw [hq1, hq2] at h9
            first | (rw [if_pos (by omega)] at h9; exact h9 _) | (rw [if_neg (by omega)] at h9; exact h9 _)
          · simp only [lt_i, le_i, eq_i, Int32.reduceToInt] at c_91
            refine jr_iload_n dX9_telling_94 rfl ?_
            refine jr_iload_n dX9_telling_95 rfl ?_
            refine jr_icmp_le 103 dX9_telling_96 (by decide) (fun c_96 => ?_) (fun c_96 => ?_)
            · simp only [lt_i, le_i, eq_i, Int32.reduceToInt] at c_96
              refine jr_iconst (0) dX9_telling_103 (by decide) ?_
              refine jr_istore_7 dX9_telling_104 (by decide) rfl ?_
              refine jr_iload dX9_telling_106 rfl ?_
              refine jr_if_eq 115 dX9_telling_108 (by decide) (fun c_108 => ?_) (fun c_108 => absurd (by decide) c_108)
              refine jr_iload_n dX9_telling_115 rfl ?_
              refine jr_istore_1 dX9_telling_116 (by decide) rfl ?_
              refine jr_iinc_4 (nI (660 + (i + 1))) dX9_telling_117 (inc1 _) (by decide) rfl ?_
              refine jr_goto 22 dX9_telling_120 (by decide) ?_
              have h9 := fun x => ih (i + 1) (some (.int (nI ((660 + i) % 720)))) (some (.int (nI ((660 + i - ap) % 720)))) (some (.int x)) (by omega)
              rw [hq1, hq2] at h9
              first | (rw [if_pos (by omega)] at h9; exact h9 _) | (rw [if_neg (by omega)] at h9; exact h9 _)
            · simp only [lt_i, le_i, eq_i, Int32.reduceToInt] at c_96
              refine jr_iconst (1) dX9_telling_99 (by decide) ?_
              refine jr_goto 104 dX9_telling_100 (by decide) ?_
              refine jr_istore_7 dX9_telling_104 (by decide) rfl ?_
              refine jr_iload dX9_telling_106 rfl ?_
              refine jr_if_eq 115 dX9_telling_108 (by decide) (fun c_108 => absurd c_108 (by decide)) (fun c_108 => ?_)
              refine jr_iload_n dX9_telling_111 rfl ?_
              refine jr_goto 116 dX9_telling_112 (by decide) ?_
              refine jr_istore_1 dX9_telling_116 (by decide) rfl ?_
              refine jr_iinc_4 (nI (660 + (i + 1))) dX9_telling_117 (inc1 _) (by decide) rfl ?_
              refine jr_goto 22 dX9_telling_120 (by decide) ?_
              have h9 := fun x => ih (i + 1) (some (.int (nI ((660 + i) % 720)))) (some (.int (nI ((660 + i - ap) % 720)))) (some (.int x)) (by omega)
              rw [hq1, hq2] at h9
              first | (rw [if_pos (by omega)] at h9; exact h9 _) | (rw [if_neg (by omega)] at h9; exact h9 _)
      refine jr_iload dX9_telling_22 rfl ?_
      refine jr_sipush (1440) dX9_telling_24 (by decide) ?_
      refine jr_icmp_ge 123 dX9_telling_27 (by decide) (fun c_27 => absurd c_27 (nI_ge (b := 1440) (by omega) (by omega))) (fun c_27 => ?_)
      refine jr_iload dX9_telling_30 rfl ?_
      refine jr_sipush (720) dX9_telling_32 (by decide) ?_
      refine jr_irem dX9_telling_35 (by decide) ?_
      rw [hx]
      refine jr_istore_5 dX9_telling_36 (by decide) rfl ?_
      refine jr_iload dX9_telling_38 rfl ?_
      refine jr_iload_n dX9_telling_40 rfl ?_
      refine jr_isub dX9_telling_41 ?_
      refine jr_sipush (720) dX9_telling_42 (by decide) ?_
      refine jr_irem dX9_telling_45 (by decide) ?_
      rw [hy]
      refine jr_istore_6 dX9_telling_46 (by decide) rfl ?_
      refine jr_aload_n dX9_telling_48 rfl ?_
      refine gfX9_43 90 dX9_telling_49 (hw1.k rfl) (hw1.f rfl) ?_
      refine jr_iload dX9_telling_52 rfl ?_
      refine jr_iald ((660 + i) % 720) (hw1.k rfl) rfl ⟨hlx, by decide⟩ dX9_telling_54 ?_
      refine jr_aload_n dX9_telling_55 rfl ?_
      refine gfX9_43 90 dX9_telling_56 (hw1.k rfl) (hw1.f rfl) ?_
      refine jr_iload dX9_telling_59 rfl ?_
      refine jr_iald ((660 + i - ap) % 720) (hw1.k rfl) rfl ⟨hly, by decide⟩ dX9_telling_61 ?_
      rw [hA _ hlx, hA _ hly]
      refine jr_icmp_ne 71 dX9_telling_62 (by decide) (fun c_62 => ?_) (fun c_62 => ?_)
      · simp only [lt_i, le_i, eq_i, Int32.reduceToInt] at c_62
        refine jr_iconst (0) dX9_telling_71 (by decide) ?_
        first | exact K72 _ (by rw [if_pos (by omega)]) _ | exact K72 0 (by rw [if_neg (by omega)]) _
      · simp only [lt_i, le_i, eq_i, Int32.reduceToInt] at c_62
        refine jr_iload_n dX9_telling_65 rfl ?_
        refine jr_iconst (1) dX9_telling_66 (by decide) ?_
        refine jr_iadd dX9_telling_67 ?_
        rw [nI_1]
        refine jr_goto 72 dX9_telling_68 (by decide) ?_
        first | exact K72 _ (by rw [if_pos (by omega)]) _ | exact K72 0 (by rw [if_neg (by omega)]) _
  have L1 : ∀ (w1 : Wd), Sm scA w w1 → AllR (wI w1 90) (totT s) → ∀ (f a : Nat) (a3 a4 a5 a6 a7 : Option Value), f + a = 360 → jc1 a3 = true → jc1 a4 = true → RR g RX9 cX9_telling 8 (some .int) "telling" 7 0 0 0 0 8 [some (.ref (gb g + 78)), some (.int (nI (tlA (totT s) a))), some (.int (nI (a + 1))), a3, a4, a5, a6, a7] [] w1 Q := by
    intro w1 hS hA f
    have hw1 := hS.wf hw
    induction f with
    | zero =>
      intro a a3 a4 a5 a6 a7 ha hc3 hc4
      have e : a = 360 := by omega
      subst e
      have hle := tlA_le (totT s) 360
      have e1 := i_nI (n := tlA (totT s) 360) (by omega)
      refine jr_iload_n dX9_telling_8 rfl ?_
      refine jr_sipush (360) dX9_telling_9 (by decide) ?_
      refine jr_icmp_gt 129 dX9_telling_12 (by decide) (fun c_12 => ?_) (fun c_12 => absurd (by decide) c_12)
      refine jr_iload_n dX9_telling_129 rfl ?_
      refine jr_bipush (60) dX9_telling_130 (by decide) ?_
      refine jr_icmp_ge 141 dX9_telling_132 (by decide) (fun c_132 => ?_) (fun c_132 => ?_)
      · simp only [lt_i, le_i, eq_i, Int32.reduceToInt] at c_132
        refine jr_ldc (-1000000005) ckX9_67 dX9_telling_141 ?_
        refine jr_iret rfl dX9_telling_143 ?_
        refine hQ _ _ ⟨?_, MS.a hs hS⟩
        rw [F_telling]
        first | (rw [if_pos (by omega)]; exact nI_1 _) | rw [if_neg (by omega)]
      · simp only [lt_i, le_i, eq_i, Int32.reduceToInt] at c_132
        refine jr_iload_n dX9_telling_135 rfl ?_
        refine jr_iconst (1) dX9_telling_136 (by decide) ?_
        refine jr_iadd dX9_telling_137 ?_
        refine jr_goto 143 dX9_telling_138 (by decide) ?_
        refine jr_iret rfl dX9_telling_143 ?_
        refine hQ _ _ ⟨?_, MS.a hs hS⟩
        rw [F_telling]
        first | (rw [if_pos (by omega)]; exact nI_1 _) | rw [if_neg (by omega)]
    | succ f ih =>
      intro a a3 a4 a5 a6 a7 ha hc3 hc4
      have hle := tlA_le (totT s) a
      have K : ∀ (r : Int32) (a5 a6 a7 : Option Value), RR g RX9 cX9_telling 8 (some .int) "telling" 7 0 0 0 0 123 [some (.ref (gb g + 78)), some (.int (nI (tlI (totT s) (a + 1) (tlA (totT s) a) 780).2)), some (.int (nI (a + 1))), some (.int r), some (.int (nI 1440)), a5, a6, a7] [] w1 Q := by
        intro r a5 a6 a7
        refine jr_iinc_2 (nI (a + 1 + 1)) dX9_telling_123 (inc1 _) (by decide) rfl ?_
        refine jr_goto 8 dX9_telling_126 (by decide) ?_
        exact ih (a + 1) _ _ _ _ _ (by omega) rfl rfl
      refine jr_iload_n dX9_telling_8 rfl ?_
      refine jr_sipush (360) dX9_telling_9 (by decide) ?_
      refine jr_icmp_gt 129 dX9_telling_12 (by decide) (fun c_12 => absurd c_12 (nI_nlt (a := 360) (by omega) (by omega))) (fun c_12 => ?_)
      refine jr_iconst (0) dX9_telling_15 (by decide) ?_
      refine jr_istore_3 dX9_telling_16 (by decide) rfl ?_
      refine jr_sipush (660) dX9_telling_17 (by decide) ?_
      refine jr_istore_4 dX9_telling_20 (by decide) rfl ?_
      exact L2 w1 hS hA (a + 1) (by omega) (by omega) _ hle K 780 0 _ _ _ rfl
  refine jr_aload_n dX9_telling_0 rfl ?_
  refine jc_Vv (c_findAll g _ hw s hs hG) lkX9_161 (hw.k rfl) rfl rfl (Nat.le_of_ble_eq_true rfl) (Nat.le_of_ble_eq_true rfl) dX9_telling_1 (fun w_1 h_1 => ?_)
  obtain ⟨hA, hS⟩ := h_1
  refine jr_iconst (0) dX9_telling_4 (by decide) ?_
  refine jr_istore_1 dX9_telling_5 (by decide) rfl ?_
  refine jr_iconst (1) dX9_telling_6 (by decide) ?_
  refine jr_istore_2 dX9_telling_7 (by decide) rfl ?_
  exact L1 _ hS hA 360 0 none none none none none rfl rfl rfl
abbrev Sl : Type := (Nat → Int32) × (Nat → Int32) × (Nat → Int32) × (Nat → Int32) × (Nat → Int32)
def scL : Nat → Prop := fun i => i = 85 ∨ i = 86 ∨ i = 87 ∨ i = 88 ∨ i = 89
def ML (w w' : Wd) (S : Sl) : Prop := wI w' 85 = S.1 ∧ wI w' 86 = S.2.1 ∧ wI w' 87 = S.2.2.1 ∧ wI w' 88 = S.2.2.2.1 ∧ wI w' 89 = S.2.2.2.2 ∧ Sm scL w w'
theorem finL {P : Int32 × Sl} {w w' : Wd} {r : Int32} {S : Sl} (e : P = (r, S)) (h : ML w w' S) : r = P.1 ∧ ML w w' P.2 := by rw [e]; exact ⟨rfl, h⟩
def lyR (f tn : Nat → Int32) (k q m : Nat) : Nat → Int32 := fun j => if 24 * k ≤ j ∧ j < 24 * k + m then tn (24 * q + (j - 24 * k)) else f j
abbrev okLay (s : Nat → Int32) (k th v : Int32) : Prop := (0 ≤ k.toInt ∧ k.toInt < 5) ∧ (th.toInt = 0 ∨ th.toInt = 3 ∨ (th.toInt = 1 ∧ isC s v) ∨ (th.toInt = 2 ∧ isS v))
def F_lay (S : Sl) (R : Sh) (s : Nat → Int32) (k th v : Int32) : Int32 × Sl :=
  if ¬ okLay s k th v then (-1000000001, S) else if th.toInt = 2 ∧ (R.1 v.toNatClampNeg).toInt < 0 then (-1000000011, S)
  else (S.1 k.toNatClampNeg, (upd S.1 k.toNatClampNeg th, upd S.2.1 k.toNatClampNeg (if th.toInt = 1 then s (10 + 3 * v.toNatClampNeg + 0) else v), upd S.2.2.1 k.toNatClampNeg (if th.toInt = 1 then woF (sN s (10 + 3 * v.toNatClampNeg + 0)) (s (10 + 3 * v.toNatClampNeg + 1)) else 0),
    (if th.toInt = 2 then upd S.2.2.2.1 k.toNatClampNeg (R.2.1 v.toNatClampNeg) else S.2.2.2.1), (if th.toInt = 2 then lyR S.2.2.2.2 R.2.2 k.toNatClampNeg v.toNatClampNeg 24 else S.2.2.2.2)))
theorem lyR_0 (f tn : Nat → Int32) (k q : Nat) : lyR f tn k q 0 = f := by
  funext j
  rw [lyR, if_neg (by omega)]
theorem lyR_s (f tn : Nat → Int32) (k q m : Nat) : upd (lyR f tn k q m) (24 * k + m) (tn (24 * q + m)) = lyR f tn k q (m + 1) := by
  funext j
  by_cases e : j = 24 * k + m
  · subst e
    rw [pk_us, lyR, if_pos ⟨by omega, by omega⟩, show 24 * k + m - 24 * k = m by omega]
  · rw [pk_un e]
    simp only [lyR]
    by_cases c : 24 * k ≤ j ∧ j < 24 * k + m
    · rw [if_pos c, if_pos (by omega)]
    · rw [if_neg c, if_neg (by omega)]
theorem m_lay (g : Cx) (w : Wd) (hw : Wf w) (s : Nat → Int32) (hs : wI w 79 = s) (hG : Gd s) (R : Sh) (hR : wI w 82 = R.1 ∧ wI w 83 = R.2.1 ∧ wI w 84 = R.2.2) (S : Sl) (hL : wI w 85 = S.1 ∧ wI w 86 = S.2.1 ∧ wI w 87 = S.2.2.1 ∧ wI w 88 = S.2.2.2.1 ∧ wI w 89 = S.2.2.2.2) (k th v : Int32) : CI g yX9_lay cX9_lay 7 (some .int) 3 0 0 [.ref (gb g + 78), .int k, .int th, .int v] w (fun r w' => r = (F_lay S R s k th v).1 ∧ ML w w' (F_lay S R s k th v).2) := by
  obtain ⟨R1, R2, R3⟩ := R
  obtain ⟨S1, S2, S3, S4, S5⟩ := S
  simp only at hR hL
  obtain ⟨hR1, hR2, hR3⟩ := hR
  obtain ⟨hS1, hS2, hS3, hS4, hS5⟩ := hL
  obtain ⟨h0, -, -, -, -, -, hC, -⟩ := id hG
  have h6 := h0.2
  have hid : ML w w (S1, S2, S3, S4, S5) := ⟨hS1, hS2, hS3, hS4, hS5, Sm.rf⟩
  refine CI.of (own := RX9) (nm := "lay") (lv := [some (.ref (gb g + 78)), some (.int k), some (.int th), some (.int v), none, none, none]) (by decide) rfl rfl (Nat.le_of_ble_eq_true rfl) rfl (fun Q hQ => ?_)
  by_cases hok : okLay s k th v
  · obtain ⟨q, hq, ek⟩ := i_of (n := 5) hok.1.1 hok.1.2
    subst ek
    have e0 : F_lay (S1, S2, S3, S4, S5) (R1, R2, R3) s (nI q) th v = if th.toInt = 2 ∧ (R1 v.toNatClampNeg).toInt < 0 then (-1000000011, (S1, S2, S3, S4, S5))
      else (S1 q, (upd S1 q th, upd S2 q (if th.toInt = 1 then s (10 + 3 * v.toNatClampNeg + 0) else v), upd S3 q (if th.toInt = 1 then woF (sN s (10 + 3 * v.toNatClampNeg + 0)) (s (10 + 3 * v.toNatClampNeg + 1)) else 0), (if th.toInt = 2 then upd S4 q (R2 v.toNatClampNeg) else S4), (if th.toInt = 2 then lyR S5 R3 q v.toNatClampNeg 24 else S5))) := by
      rw [F_lay, if_neg (fun h => h hok), nI_clamp (by omega)]
    have K41 : RR g RX9 cX9_lay 7 (some .int) "lay" 3 0 0 0 0 41 [some (.ref (gb g + 78)), some (.int (nI q)), some (.int th), some (.int v), some (.int 1), none, none] [] w Q := by
      rcases hok.2 with h | h | ⟨h, hv⟩ | ⟨h, hv⟩
      · refine jr_iload_n dX9_lay_41 rfl ?_
        refine jc_Si (c_isSlot g _ _) lkX9_309 rfl rfl (Nat.le_of_ble_eq_true rfl) (Nat.le_of_ble_eq_true rfl) dX9_lay_42 (fun r_42 w_42 h_42 => ?_)
        obtain ⟨rfl, rfl⟩ := h_42
        refine jr_if_eq 53 dX9_lay_45 (by decide) (fun c_45 => absurd c_45 (jb_1.mpr hok.1)) (fun c_45 => ?_)
        refine jr_iload dX9_lay_48 rfl ?_
        refine jr_if_ne 56 dX9_lay_50 (by decide) (fun c_50 => ?_) (fun c_50 => absurd c_50 (by decide))
        refine jr_iload_n dX9_lay_56 rfl ?_
        refine jr_iconst (2) dX9_lay_57 (by decide) ?_
        refine jr_icmp_ne 73 dX9_lay_58 (by decide) (fun c_58 => ?_) (fun c_58 => absurd c_58 (by rw [eq_i, h]; decide))
        refine jr_aload_n dX9_lay_73 rfl ?_
        refine gfX9_28 85 dX9_lay_74 (hw.k rfl) (hw.f rfl) ?_
        refine jr_iload_n dX9_lay_77 rfl ?_
        refine jr_iald q (hw.k rfl) rfl ⟨hq, by decide⟩ dX9_lay_78 ?_
        refine jr_istore_5 dX9_lay_79 (by decide) rfl ?_
        refine jr_aload_n dX9_lay_81 rfl ?_
        refine gfX9_28 85 dX9_lay_82 (hw.k rfl) (hw.f rfl) ?_
        refine jr_iload_n dX9_lay_85 rfl ?_
        refine jr_iload_n dX9_lay_86 rfl ?_
        refine jr_iast q (hw.k rfl) rfl ⟨hq, by decide⟩ dX9_lay_87 ?_
        refine jr_aload_n dX9_lay_88 rfl ?_
        refine gfX9_31 86 dX9_lay_89 (hw.k rfl) (hw.f rfl) ?_
        refine jr_iload_n dX9_lay_92 rfl ?_
        refine jr_iload_n dX9_lay_93 rfl ?_
        refine jr_iconst (1) dX9_lay_94 (by decide) ?_
        refine jr_icmp_ne 107 dX9_lay_95 (by decide) (fun c_95 => ?_) (fun c_95 => absurd c_95 (by rw [eq_i, h]; decide))
        refine jr_iload_n dX9_lay_107 rfl ?_
        refine jr_iast q (hw.k rfl) rfl ⟨hq, by decide⟩ dX9_lay_108 ?_
        refine jr_aload_n dX9_lay_109 rfl ?_
        refine gfX9_34 87 dX9_lay_110 (hw.k rfl) (hw.f rfl) ?_
        refine jr_iload_n dX9_lay_113 rfl ?_
        refine jr_iload_n dX9_lay_114 rfl ?_
        refine jr_iconst (1) dX9_lay_115 (by decide) ?_
        refine jr_icmp_ne 127 dX9_lay_116 (by decide) (fun c_116 => ?_) (fun c_116 => absurd c_116 (by rw [eq_i, h]; decide))
        refine jr_iconst (0) dX9_lay_127 (by decide) ?_
        refine jr_iast q (hw.k rfl) rfl ⟨hq, by decide⟩ dX9_lay_128 ?_
        refine jr_iload_n dX9_lay_129 rfl ?_
        refine jr_iconst (2) dX9_lay_130 (by decide) ?_
        refine jr_icmp_ne 186 dX9_lay_131 (by decide) (fun c_131 => ?_) (fun c_131 => absurd c_131 (by rw [eq_i, h]; decide))
        refine jr_iload dX9_lay_186 rfl ?_
        refine jr_iret rfl dX9_lay_188 ?_
        refine hQ _ _ (finL (S := (upd S1 q th, upd S2 q v, upd S3 q 0, S4, S5)) ?_ ⟨?_, ?_, ?_, ?_, ?_, ((Sm.sR (by unfold scL; omega)).tr (Sm.sR (by unfold scL; omega))).tr (Sm.sR (by unfold scL; omega))⟩)
        · rw [e0, if_neg (by omega), if_neg (by omega), if_neg (by omega), if_neg (by omega), if_neg (by omega), hS1]
        all_goals simp only [wI_sR_s, wI_sR_n _ (show 79 ≠ 85 by decide), wI_sR_n _ (show 79 ≠ 86 by decide), wI_sR_n _ (show 85 ≠ 86 by decide), wI_sR_n _ (show 85 ≠ 87 by decide), wI_sR_n _ (show 86 ≠ 87 by decide), wI_sR_n _ (show 86 ≠ 85 by decide), wI_sR_n _ (show 87 ≠ 86 by decide), wI_sR_n _ (show 87 ≠ 85 by decide), wI_sR_n _ (show 88 ≠ 87 by decide), wI_sR_n _ (show 88 ≠ 86 by decide), wI_sR_n _ (show 88 ≠ 85 by decide), wI_sR_n _ (show 89 ≠ 87 by decide), wI_sR_n _ (show 89 ≠ 86 by decide), wI_sR_n _ (show 89 ≠ 85 by decide), wI_sR_n _ (show 85 ≠ 88 by decide), wI_sR_n _ (show 86 ≠ 88 by decide), wI_sR_n _ (show 87 ≠ 88 by decide), wI_sR_n _ (show 89 ≠ 88 by decide), wI_sR_n _ (show 83 ≠ 85 by decide), wI_sR_n _ (show 83 ≠ 86 by decide), wI_sR_n _ (show 83 ≠ 87 by decide), hs, hR2, hS1, hS2, hS3, hS4, hS5]
      · refine jr_iload_n dX9_lay_41 rfl ?_
        refine jc_Si (c_isSlot g _ _) lkX9_309 rfl rfl (Nat.le_of_ble_eq_true rfl) (Nat.le_of_ble_eq_true rfl) dX9_lay_42 (fun r_42 w_42 h_42 => ?_)
        obtain ⟨rfl, rfl⟩ := h_42
        refine jr_if_eq 53 dX9_lay_45 (by decide) (fun c_45 => absurd c_45 (jb_1.mpr hok.1)) (fun c_45 => ?_)
        refine jr_iload dX9_lay_48 rfl ?_
        refine jr_if_ne 56 dX9_lay_50 (by decide) (fun c_50 => ?_) (fun c_50 => absurd c_50 (by decide))
        refine jr_iload_n dX9_lay_56 rfl ?_
        refine jr_iconst (2) dX9_lay_57 (by decide) ?_
        refine jr_icmp_ne 73 dX9_lay_58 (by decide) (fun c_58 => ?_) (fun c_58 => absurd c_58 (by rw [eq_i, h]; decide))
        refine jr_aload_n dX9_lay_73 rfl ?_
        refine gfX9_28 85 dX9_lay_74 (hw.k rfl) (hw.f rfl) ?_
        refine jr_iload_n dX9_lay_77 rfl ?_
        refine jr_iald q (hw.k rfl) rfl ⟨hq, by decide⟩ dX9_lay_78 ?_
        refine jr_istore_5 dX9_lay_79 (by decide) rfl ?_
        refine jr_aload_n dX9_lay_81 rfl ?_
        refine gfX9_28 85 dX9_lay_82 (hw.k rfl) (hw.f rfl) ?_
        refine jr_iload_n dX9_lay_85 rfl ?_
        refine jr_iload_n dX9_lay_86 rfl ?_
        refine jr_iast q (hw.k rfl) rfl ⟨hq, by decide⟩ dX9_lay_87 ?_
        refine jr_aload_n dX9_lay_88 rfl ?_
        refine gfX9_31 86 dX9_lay_89 (hw.k rfl) (hw.f rfl) ?_
        refine jr_iload_n dX9_lay_92 rfl ?_
        refine jr_iload_n dX9_lay_93 rfl ?_
        refine jr_iconst (1) dX9_lay_94 (by decide) ?_
        refine jr_icmp_ne 107 dX9_lay_95 (by decide) (fun c_95 => ?_) (fun c_95 => absurd c_95 (by rw [eq_i, h]; decide))
        refine jr_iload_n dX9_lay_107 rfl ?_
        refine jr_iast q (hw.k rfl) rfl ⟨hq, by decide⟩ dX9_lay_108 ?_
        refine jr_aload_n dX9_lay_109 rfl ?_
        refine gfX9_34 87 dX9_lay_110 (hw.k rfl) (hw.f rfl) ?_
        refine jr_iload_n dX9_lay_113 rfl ?_
        refine jr_iload_n dX9_lay_114 rfl ?_
        refine jr_iconst (1) dX9_lay_115 (by decide) ?_
        refine jr_icmp_ne 127 dX9_lay_116 (by decide) (fun c_116 => ?_) (fun c_116 => absurd c_116 (by rw [eq_i, h]; decide))
        refine jr_iconst (0) dX9_lay_127 (by decide) ?_
        refine jr_iast q (hw.k rfl) rfl ⟨hq, by decide⟩ dX9_lay_128 ?_
        refine jr_iload_n dX9_lay_129 rfl ?_
        refine jr_iconst (2) dX9_lay_130 (by decide) ?_
        refine jr_icmp_ne 186 dX9_lay_131 (by decide) (fun c_131 => ?_) (fun c_131 => absurd c_131 (by rw [eq_i, h]; decide))
        refine jr_iload dX9_lay_186 rfl ?_
        refine jr_iret rfl dX9_lay_188 ?_
        refine hQ _ _ (finL (S := (upd S1 q th, upd S2 q v, upd S3 q 0, S4, S5)) ?_ ⟨?_, ?_, ?_, ?_, ?_, ((Sm.sR (by unfold scL; omega)).tr (Sm.sR (by unfold scL; omega))).tr (Sm.sR (by unfold scL; omega))⟩)
        · rw [e0, if_neg (by omega), if_neg (by omega), if_neg (by omega), if_neg (by omega), if_neg (by omega), hS1]
        all_goals simp only [wI_sR_s, wI_sR_n _ (show 79 ≠ 85 by decide), wI_sR_n _ (show 79 ≠ 86 by decide), wI_sR_n _ (show 85 ≠ 86 by decide), wI_sR_n _ (show 85 ≠ 87 by decide), wI_sR_n _ (show 86 ≠ 87 by decide), wI_sR_n _ (show 86 ≠ 85 by decide), wI_sR_n _ (show 87 ≠ 86 by decide), wI_sR_n _ (show 87 ≠ 85 by decide), wI_sR_n _ (show 88 ≠ 87 by decide), wI_sR_n _ (show 88 ≠ 86 by decide), wI_sR_n _ (show 88 ≠ 85 by decide), wI_sR_n _ (show 89 ≠ 87 by decide), wI_sR_n _ (show 89 ≠ 86 by decide), wI_sR_n _ (show 89 ≠ 85 by decide), wI_sR_n _ (show 85 ≠ 88 by decide), wI_sR_n _ (show 86 ≠ 88 by decide), wI_sR_n _ (show 87 ≠ 88 by decide), wI_sR_n _ (show 89 ≠ 88 by decide), wI_sR_n _ (show 83 ≠ 85 by decide), wI_sR_n _ (show 83 ≠ 86 by decide), wI_sR_n _ (show 83 ≠ 87 by decide), hs, hR2, hS1, hS2, hS3, hS4, hS5]
      · obtain ⟨c, hc, ec⟩ := i_of hv.1 hv.2
        subst ec
        have e1 : th = 1 := by rw [eq_i, h]; decide
        subst e1
        refine jr_iload_n dX9_lay_41 rfl ?_
        refine jc_Si (c_isSlot g _ _) lkX9_309 rfl rfl (Nat.le_of_ble_eq_true rfl) (Nat.le_of_ble_eq_true rfl) dX9_lay_42 (fun r_42 w_42 h_42 => ?_)
        obtain ⟨rfl, rfl⟩ := h_42
        refine jr_if_eq 53 dX9_lay_45 (by decide) (fun c_45 => absurd c_45 (jb_1.mpr hok.1)) (fun c_45 => ?_)
        refine jr_iload dX9_lay_48 rfl ?_
        refine jr_if_ne 56 dX9_lay_50 (by decide) (fun c_50 => ?_) (fun c_50 => absurd c_50 (by decide))
        refine jr_iload_n dX9_lay_56 rfl ?_
        refine jr_iconst (2) dX9_lay_57 (by decide) ?_
        refine jr_icmp_ne 73 dX9_lay_58 (by decide) (fun c_58 => ?_) (fun c_58 => absurd c_58 (by decide))
        refine jr_aload_n dX9_lay_73 rfl ?_
        refine gfX9_28 85 dX9_lay_74 (hw.k rfl) (hw.f rfl) ?_
        refine jr_iload_n dX9_lay_77 rfl ?_
        refine jr_iald q (hw.k rfl) rfl ⟨hq, by decide⟩ dX9_lay_78 ?_
        refine jr_istore_5 dX9_lay_79 (by decide) rfl ?_
        refine jr_aload_n dX9_lay_81 rfl ?_
        refine gfX9_28 85 dX9_lay_82 (hw.k rfl) (hw.f rfl) ?_
        refine jr_iload_n dX9_lay_85 rfl ?_
        refine jr_iload_n dX9_lay_86 rfl ?_
        refine jr_iast q (hw.k rfl) rfl ⟨hq, by decide⟩ dX9_lay_87 ?_
        refine jr_aload_n dX9_lay_88 rfl ?_
        refine gfX9_31 86 dX9_lay_89 (hw.k rfl) (hw.f rfl) ?_
        refine jr_iload_n dX9_lay_92 rfl ?_
        refine jr_iload_n dX9_lay_93 rfl ?_
        refine jr_iconst (1) dX9_lay_94 (by decide) ?_
        refine jr_icmp_ne 107 dX9_lay_95 (by decide) (fun c_95 => absurd (by decide) c_95) (fun c_95 => ?_)
        refine jr_aload_n dX9_lay_98 rfl ?_
        refine jr_iload_n dX9_lay_99 rfl ?_
        refine jr_iconst (0) dX9_lay_100 (by decide) ?_
        refine jc_Vi (c_of g _ (by exact hw) c 0 (by omega) (by decide)) lkX9_88 (hw.k rfl) rfl rfl (Nat.le_of_ble_eq_true rfl) (Nat.le_of_ble_eq_true rfl) dX9_lay_101 (fun r_101 w_101 h_101 => ?_)
        obtain ⟨rfl, rfl⟩ := h_101
        refine jr_goto 108 dX9_lay_104 (by decide) ?_
        refine jr_iast q (hw.k rfl) rfl ⟨hq, by decide⟩ dX9_lay_108 ?_
        refine jr_aload_n dX9_lay_109 rfl ?_
        refine gfX9_34 87 dX9_lay_110 (hw.k rfl) (hw.f rfl) ?_
        refine jr_iload_n dX9_lay_113 rfl ?_
        refine jr_iload_n dX9_lay_114 rfl ?_
        refine jr_iconst (1) dX9_lay_115 (by decide) ?_
        refine jr_icmp_ne 127 dX9_lay_116 (by decide) (fun c_116 => absurd (by decide) c_116) (fun c_116 => ?_)
        refine jr_aload_n dX9_lay_119 rfl ?_
        refine jr_iload_n dX9_lay_120 rfl ?_
        refine jc_Vi (c_mworth g _ (by exact hw) s (by rw [wI_sR_n _ (by decide), wI_sR_n _ (by decide)]; exact hs) hC c (by omega)) lkX9_118 (hw.k rfl) rfl rfl (Nat.le_of_ble_eq_true rfl) (Nat.le_of_ble_eq_true rfl) dX9_lay_121 (fun r_121 w_121 h_121 => ?_)
        obtain ⟨rfl, rfl⟩ := h_121
        refine jr_goto 128 dX9_lay_124 (by decide) ?_
        refine jr_iast q (hw.k rfl) rfl ⟨hq, by decide⟩ dX9_lay_128 ?_
        refine jr_iload_n dX9_lay_129 rfl ?_
        refine jr_iconst (2) dX9_lay_130 (by decide) ?_
        refine jr_icmp_ne 186 dX9_lay_131 (by decide) (fun c_131 => ?_) (fun c_131 => absurd c_131 (by decide))
        refine jr_iload dX9_lay_186 rfl ?_
        refine jr_iret rfl dX9_lay_188 ?_
        refine hQ _ _ (finL (S := (upd S1 q 1, upd S2 q (s (10 + 3 * c + 0)), upd S3 q (woF (sN s (10 + 3 * c + 0)) (s (10 + 3 * c + 1))), S4, S5)) ?_ ⟨?_, ?_, ?_, ?_, ?_, ((Sm.sR (by unfold scL; omega)).tr (Sm.sR (by unfold scL; omega))).tr (Sm.sR (by unfold scL; omega))⟩)
        · rw [e0, if_neg (by omega), if_pos h, if_pos h, if_neg (by omega), if_neg (by omega), hS1, nI_clamp (by omega)]
        all_goals simp only [wI_sR_s, wI_sR_n _ (show 79 ≠ 85 by decide), wI_sR_n _ (show 79 ≠ 86 by decide), wI_sR_n _ (show 85 ≠ 86 by decide), wI_sR_n _ (show 85 ≠ 87 by decide), wI_sR_n _ (show 86 ≠ 87 by decide), wI_sR_n _ (show 86 ≠ 85 by decide), wI_sR_n _ (show 87 ≠ 86 by decide), wI_sR_n _ (show 87 ≠ 85 by decide), wI_sR_n _ (show 88 ≠ 87 by decide), wI_sR_n _ (show 88 ≠ 86 by decide), wI_sR_n _ (show 88 ≠ 85 by decide), wI_sR_n _ (show 89 ≠ 87 by decide), wI_sR_n _ (show 89 ≠ 86 by decide), wI_sR_n _ (show 89 ≠ 85 by decide), wI_sR_n _ (show 85 ≠ 88 by decide), wI_sR_n _ (show 86 ≠ 88 by decide), wI_sR_n _ (show 87 ≠ 88 by decide), wI_sR_n _ (show 89 ≠ 88 by decide), wI_sR_n _ (show 83 ≠ 85 by decide), wI_sR_n _ (show 83 ≠ 86 by decide), wI_sR_n _ (show 83 ≠ 87 by decide), hs, hR2, hS1, hS2, hS3, hS4, hS5]
      · obtain ⟨p, hp, ep⟩ := i_of (n := 4) hv.1 hv.2
        subst ep
        have e1 : th = 2 := by rw [eq_i, h]; decide
        subst e1
        have n1 : ¬ (2 : Int32).toInt = 1 := by omega
        by_cases hso : (R1 p).toInt < 0
        · rw [nI_clamp (by omega), if_pos ⟨h, hso⟩] at e0
          refine jr_iload_n dX9_lay_41 rfl ?_
          refine jc_Si (c_isSlot g _ _) lkX9_309 rfl rfl (Nat.le_of_ble_eq_true rfl) (Nat.le_of_ble_eq_true rfl) dX9_lay_42 (fun r_42 w_42 h_42 => ?_)
          obtain ⟨rfl, rfl⟩ := h_42
          refine jr_if_eq 53 dX9_lay_45 (by decide) (fun c_45 => absurd c_45 (jb_1.mpr hok.1)) (fun c_45 => ?_)
          refine jr_iload dX9_lay_48 rfl ?_
          refine jr_if_ne 56 dX9_lay_50 (by decide) (fun c_50 => ?_) (fun c_50 => absurd c_50 (by decide))
          refine jr_iload_n dX9_lay_56 rfl ?_
          refine jr_iconst (2) dX9_lay_57 (by decide) ?_
          refine jr_icmp_ne 73 dX9_lay_58 (by decide) (fun c_58 => absurd (by decide) c_58) (fun c_58 => ?_)
          refine jr_aload_n dX9_lay_61 rfl ?_
          refine gfX9_19 82 dX9_lay_62 (hw.k rfl) (hw.f rfl) ?_
          refine jr_iload_n dX9_lay_65 rfl ?_
          refine jr_iald p (hw.k rfl) rfl ⟨hp, by decide⟩ dX9_lay_66 ?_
          rw [hR1]
          refine jr_if_ge 73 dX9_lay_67 (by decide) (fun c_67 => absurd c_67 (by rw [Int32.le_iff_toInt_le]; exact Int.not_le.mpr hso)) (fun c_67 => ?_)
          refine jr_ldc (-1000000011) ckX9_181 dX9_lay_70 ?_
          refine jr_iret rfl dX9_lay_72 ?_
          exact hQ _ _ (finL e0 hid)
        · rw [nI_clamp (by omega), if_neg (fun hh => hso hh.2), if_neg n1, if_neg n1, if_pos h, if_pos h] at e0
          have L : ∀ (f i : Nat) (w1 : Wd), f + i = 24 → wI w1 85 = upd S1 q 2 → wI w1 86 = upd S2 q (nI p) → wI w1 87 = upd S3 q 0 → wI w1 88 = upd S4 q (R2 p) → wI w1 89 = lyR S5 R3 q p i → Sm scL w w1 → RR g RX9 cX9_lay 7 (some .int) "lay" 3 0 0 0 0 149 [some (.ref (gb g + 78)), some (.int (nI q)), some (.int 2), some (.int (nI p)), some (.int 1), some (.int (S1 q)), some (.int (nI i))] [] w1 Q := by
            intro f
            induction f with
            | zero =>
              intro i w1 hi a1 a2 a3 a4 a5 hS
              have ei : i = 24 := by omega
              subst ei
              refine jr_iload dX9_lay_149 rfl ?_
              refine jr_bipush (24) dX9_lay_151 (by decide) ?_
              refine jr_icmp_ge 186 dX9_lay_153 (by decide) (fun c_153 => ?_) (fun c_153 => absurd (by decide) c_153)
              refine jr_iload dX9_lay_186 rfl ?_
              refine jr_iret rfl dX9_lay_188 ?_
              exact hQ _ _ (finL e0 ⟨a1, a2, a3, a4, a5, hS⟩)
            | succ f ih =>
              intro i w1 hi a1 a2 a3 a4 a5 hS
              have hw1 := hS.wf hw
              refine jr_iload dX9_lay_149 rfl ?_
              refine jr_bipush (24) dX9_lay_151 (by decide) ?_
              refine jr_icmp_ge 186 dX9_lay_153 (by decide) (fun c_153 => absurd c_153 (by rw [jlit 24]; exact nI_ge (by omega) (by omega))) (fun c_153 => ?_)
              refine jr_aload_n dX9_lay_156 rfl ?_
              refine gfX9_40 89 dX9_lay_157 (hw1.k rfl) (hw1.f rfl) ?_
              refine jr_bipush (24) dX9_lay_160 (by decide) ?_
              refine jr_iload_n dX9_lay_162 rfl ?_
              refine jr_imul dX9_lay_163 ?_
              refine jr_iload dX9_lay_164 rfl ?_
              refine jr_iadd dX9_lay_166 ?_
              refine jr_aload_n dX9_lay_167 rfl ?_
              refine gfX9_25 84 dX9_lay_168 (hw1.k rfl) (hw1.f rfl) ?_
              refine jr_bipush (24) dX9_lay_171 (by decide) ?_
              refine jr_iload_n dX9_lay_173 rfl ?_
              refine jr_imul dX9_lay_174 ?_
              refine jr_iload dX9_lay_175 rfl ?_
              refine jr_iadd dX9_lay_177 ?_
              refine jr_iald (24 * p + i) (hw1.k rfl) (by rw [jlit 24, pk_mul, nI_add]) ⟨by omega, by decide⟩ dX9_lay_178 ?_
              rw [hS.row (by unfold scL; omega), hR3]
              refine jr_iast (24 * q + i) (hw1.k rfl) (by rw [jlit 24, pk_mul, nI_add]) ⟨by omega, by decide⟩ dX9_lay_179 ?_
              refine jr_iinc_6 (nI (i + 1)) dX9_lay_180 (inc1 i) (by decide) rfl ?_
              refine jr_goto 149 dX9_lay_183 (by decide) ?_
              refine ih (i + 1) _ (by omega) ?_ ?_ ?_ ?_ ?_ (hS.tr (Sm.sR (by unfold scL; omega)))
              · rw [wI_sR_n _ (by decide)]; exact a1
              · rw [wI_sR_n _ (by decide)]; exact a2
              · rw [wI_sR_n _ (by decide)]; exact a3
              · rw [wI_sR_n _ (by decide)]; exact a4
              · rw [wI_sR_s, a5]; exact lyR_s _ _ _ _ _
          refine jr_iload_n dX9_lay_41 rfl ?_
          refine jc_Si (c_isSlot g _ _) lkX9_309 rfl rfl (Nat.le_of_ble_eq_true rfl) (Nat.le_of_ble_eq_true rfl) dX9_lay_42 (fun r_42 w_42 h_42 => ?_)
          obtain ⟨rfl, rfl⟩ := h_42
          refine jr_if_eq 53 dX9_lay_45 (by decide) (fun c_45 => absurd c_45 (jb_1.mpr hok.1)) (fun c_45 => ?_)
          refine jr_iload dX9_lay_48 rfl ?_
          refine jr_if_ne 56 dX9_lay_50 (by decide) (fun c_50 => ?_) (fun c_50 => absurd c_50 (by decide))
          refine jr_iload_n dX9_lay_56 rfl ?_
          refine jr_iconst (2) dX9_lay_57 (by decide) ?_
          refine jr_icmp_ne 73 dX9_lay_58 (by decide) (fun c_58 => absurd (by decide) c_58) (fun c_58 => ?_)
          refine jr_aload_n dX9_lay_61 rfl ?_
          refine gfX9_19 82 dX9_lay_62 (hw.k rfl) (hw.f rfl) ?_
          refine jr_iload_n dX9_lay_65 rfl ?_
          refine jr_iald p (hw.k rfl) rfl ⟨hp, by decide⟩ dX9_lay_66 ?_
          rw [hR1]
          refine jr_if_ge 73 dX9_lay_67 (by decide) (fun c_67 => ?_) (fun c_67 => absurd (by rw [Int32.le_iff_toInt_le]; exact Int.not_lt.mp hso) c_67)
          refine jr_aload_n dX9_lay_73 rfl ?_
          refine gfX9_28 85 dX9_lay_74 (hw.k rfl) (hw.f rfl) ?_
          refine jr_iload_n dX9_lay_77 rfl ?_
          refine jr_iald q (hw.k rfl) rfl ⟨hq, by decide⟩ dX9_lay_78 ?_
          rw [hS1]
          refine jr_istore_5 dX9_lay_79 (by decide) rfl ?_
          refine jr_aload_n dX9_lay_81 rfl ?_
          refine gfX9_28 85 dX9_lay_82 (hw.k rfl) (hw.f rfl) ?_
          refine jr_iload_n dX9_lay_85 rfl ?_
          refine jr_iload_n dX9_lay_86 rfl ?_
          refine jr_iast q (hw.k rfl) rfl ⟨hq, by decide⟩ dX9_lay_87 ?_
          refine jr_aload_n dX9_lay_88 rfl ?_
          refine gfX9_31 86 dX9_lay_89 (hw.k rfl) (hw.f rfl) ?_
          refine jr_iload_n dX9_lay_92 rfl ?_
          refine jr_iload_n dX9_lay_93 rfl ?_
          refine jr_iconst (1) dX9_lay_94 (by decide) ?_
          refine jr_icmp_ne 107 dX9_lay_95 (by decide) (fun c_95 => ?_) (fun c_95 => absurd c_95 (by decide))
          refine jr_iload_n dX9_lay_107 rfl ?_
          refine jr_iast q (hw.k rfl) rfl ⟨hq, by decide⟩ dX9_lay_108 ?_
          refine jr_aload_n dX9_lay_109 rfl ?_
          refine gfX9_34 87 dX9_lay_110 (hw.k rfl) (hw.f rfl) ?_
          refine jr_iload_n dX9_lay_113 rfl ?_
          refine jr_iload_n dX9_lay_114 rfl ?_
          refine jr_iconst (1) dX9_lay_115 (by decide) ?_
          refine jr_icmp_ne 127 dX9_lay_116 (by decide) (fun c_116 => ?_) (fun c_116 => absurd c_116 (by decide))
          refine jr_iconst (0) dX9_lay_127 (by decide) ?_
          refine jr_iast q (hw.k rfl) rfl ⟨hq, by decide⟩ dX9_lay_128 ?_
          refine jr_iload_n dX9_lay_129 rfl ?_
          refine jr_iconst (2) dX9_lay_130 (by decide) ?_
          refine jr_icmp_ne 186 dX9_lay_131 (by decide) (fun c_131 => absurd (by decide) c_131) (fun c_131 => ?_)
          refine jr_aload_n dX9_lay_134 rfl ?_
          refine gfX9_37 88 dX9_lay_135 (hw.k rfl) (hw.f rfl) ?_
          refine jr_iload_n dX9_lay_138 rfl ?_
          refine jr_aload_n dX9_lay_139 rfl ?_
          refine gfX9_22 83 dX9_lay_140 (hw.k rfl) (hw.f rfl) ?_
          refine jr_iload_n dX9_lay_143 rfl ?_
          refine jr_iald p (hw.k rfl) rfl ⟨hp, by decide⟩ dX9_lay_144 ?_
          refine jr_iast q (hw.k rfl) rfl ⟨hq, by decide⟩ dX9_lay_145 ?_
          refine jr_iconst (0) dX9_lay_146 (by decide) ?_
          refine jr_istore_6 dX9_lay_147 (by decide) rfl ?_
          refine L 24 0 _ rfl ?_ ?_ ?_ ?_ ?_ ((((Sm.sR (by unfold scL; omega)).tr (Sm.sR (by unfold scL; omega))).tr (Sm.sR (by unfold scL; omega))).tr (Sm.sR (by unfold scL; omega)))
          all_goals simp only [wI_sR_s, wI_sR_n _ (show 79 ≠ 85 by decide), wI_sR_n _ (show 79 ≠ 86 by decide), wI_sR_n _ (show 85 ≠ 86 by decide), wI_sR_n _ (show 85 ≠ 87 by decide), wI_sR_n _ (show 86 ≠ 87 by decide), wI_sR_n _ (show 86 ≠ 85 by decide), wI_sR_n _ (show 87 ≠ 86 by decide), wI_sR_n _ (show 87 ≠ 85 by decide), wI_sR_n _ (show 88 ≠ 87 by decide), wI_sR_n _ (show 88 ≠ 86 by decide), wI_sR_n _ (show 88 ≠ 85 by decide), wI_sR_n _ (show 89 ≠ 87 by decide), wI_sR_n _ (show 89 ≠ 86 by decide), wI_sR_n _ (show 89 ≠ 85 by decide), wI_sR_n _ (show 85 ≠ 88 by decide), wI_sR_n _ (show 86 ≠ 88 by decide), wI_sR_n _ (show 87 ≠ 88 by decide), wI_sR_n _ (show 89 ≠ 88 by decide), wI_sR_n _ (show 83 ≠ 85 by decide), wI_sR_n _ (show 83 ≠ 86 by decide), wI_sR_n _ (show 83 ≠ 87 by decide), hs, hR2, hS1, hS2, hS3, hS4, hS5]
          rw [lyR_0]
    refine jr_iload_n dX9_lay_0 rfl ?_
    refine jr_if_eq 34 dX9_lay_1 (by decide) (fun c_1 => ?_) (fun c_1 => ?_)
    · simp only [lt_i, le_i, eq_i, Int32.reduceToInt] at c_1
      refine jr_iconst (1) dX9_lay_34 (by decide) ?_
      refine jr_goto 39 dX9_lay_35 (by decide) ?_
      refine jr_istore_4 dX9_lay_39 (by decide) rfl ?_
      first | exact K41 | (exfalso; have hz := hok.2; unfold isC isS at hz; omega)
    · simp only [lt_i, le_i, eq_i, Int32.reduceToInt] at c_1
      refine jr_iload_n dX9_lay_4 rfl ?_
      refine jr_iconst (3) dX9_lay_5 (by decide) ?_
      refine jr_icmp_eq 34 dX9_lay_6 (by decide) (fun c_6 => ?_) (fun c_6 => ?_)
      · simp only [lt_i, le_i, eq_i, Int32.reduceToInt] at c_6
        refine jr_iconst (1) dX9_lay_34 (by decide) ?_
        refine jr_goto 39 dX9_lay_35 (by decide) ?_
        refine jr_istore_4 dX9_lay_39 (by decide) rfl ?_
        first | exact K41 | (exfalso; have hz := hok.2; unfold isC isS at hz; omega)
      · simp only [lt_i, le_i, eq_i, Int32.reduceToInt] at c_6
        refine jr_iload_n dX9_lay_9 rfl ?_
        refine jr_iconst (1) dX9_lay_10 (by decide) ?_
        refine jr_icmp_ne 22 dX9_lay_11 (by decide) (fun c_11 => ?_) (fun c_11 => ?_)
        · simp only [lt_i, le_i, eq_i, Int32.reduceToInt] at c_11
          refine jr_iload_n dX9_lay_22 rfl ?_
          refine jr_iconst (2) dX9_lay_23 (by decide) ?_
          refine jr_icmp_ne 38 dX9_lay_24 (by decide) (fun c_24 => ?_) (fun c_24 => ?_)
          · simp only [lt_i, le_i, eq_i, Int32.reduceToInt] at c_24
            refine jr_iconst (0) dX9_lay_38 (by decide) ?_
            refine jr_istore_4 dX9_lay_39 (by decide) rfl ?_
            first | exact K41 | (exfalso; have hz := hok.2; unfold isC isS at hz; omega)
          · simp only [lt_i, le_i, eq_i, Int32.reduceToInt] at c_24
            refine jr_iload_n dX9_lay_27 rfl ?_
            refine jc_Si (c_isSheet g _ _) lkX9_178 rfl rfl (Nat.le_of_ble_eq_true rfl) (Nat.le_of_ble_eq_true rfl) dX9_lay_28 (fun r_28 w_28 h_28 => ?_)
            obtain ⟨rfl, rfl⟩ := h_28
            refine jr_if_eq 38 dX9_lay_31 (by decide) (fun c_31 => ?_) (fun c_31 => ?_)
            · rw [jb_0] at c_31
              refine jr_iconst (0) dX9_lay_38 (by decide) ?_
              refine jr_istore_4 dX9_lay_39 (by decide) rfl ?_
              first | exact K41 | (exfalso; have hz := hok.2; unfold isC isS at hz; omega)
            · rw [jb_1] at c_31
              refine jr_iconst (1) dX9_lay_34 (by decide) ?_
              refine jr_goto 39 dX9_lay_35 (by decide) ?_
              refine jr_istore_4 dX9_lay_39 (by decide) rfl ?_
              first | exact K41 | (exfalso; have hz := hok.2; unfold isC isS at hz; omega)
        · simp only [lt_i, le_i, eq_i, Int32.reduceToInt] at c_11
          refine jr_aload_n dX9_lay_14 rfl ?_
          refine jr_iload_n dX9_lay_15 rfl ?_
          refine jc_Vi (c_isClock g _ hw _ (sN s 0) h6 (by rw [hs]; exact h0.1)) lkX9_107 (hw.k rfl) rfl rfl (Nat.le_of_ble_eq_true rfl) (Nat.le_of_ble_eq_true rfl) dX9_lay_16 (fun r_16 w_16 h_16 => ?_)
          obtain ⟨rfl, rfl⟩ := h_16
          refine jr_if_ne 34 dX9_lay_19 (by decide) (fun c_19 => ?_) (fun c_19 => ?_)
          · rw [jb_1] at c_19
            refine jr_iconst (1) dX9_lay_34 (by decide) ?_
            refine jr_goto 39 dX9_lay_35 (by decide) ?_
            refine jr_istore_4 dX9_lay_39 (by decide) rfl ?_
            first | exact K41 | (exfalso; have hz := hok.2; unfold isC isS at hz; omega)
          · rw [jb_0] at c_19
            refine jr_iload_n dX9_lay_22 rfl ?_
            refine jr_iconst (2) dX9_lay_23 (by decide) ?_
            refine jr_icmp_ne 38 dX9_lay_24 (by decide) (fun c_24 => ?_) (fun c_24 => ?_)
            · simp only [lt_i, le_i, eq_i, Int32.reduceToInt] at c_24
              refine jr_iconst (0) dX9_lay_38 (by decide) ?_
              refine jr_istore_4 dX9_lay_39 (by decide) rfl ?_
              first | exact K41 | (exfalso; have hz := hok.2; unfold isC isS at hz; omega)
            · simp only [lt_i, le_i, eq_i, Int32.reduceToInt] at c_24
              refine jr_iload_n dX9_lay_27 rfl ?_
              refine jc_Si (c_isSheet g _ _) lkX9_178 rfl rfl (Nat.le_of_ble_eq_true rfl) (Nat.le_of_ble_eq_true rfl) dX9_lay_28 (fun r_28 w_28 h_28 => ?_)
              obtain ⟨rfl, rfl⟩ := h_28
              refine jr_if_eq 38 dX9_lay_31 (by decide) (fun c_31 => ?_) (fun c_31 => ?_)
              · rw [jb_0] at c_31
                refine jr_iconst (0) dX9_lay_38 (by decide) ?_
                refine jr_istore_4 dX9_lay_39 (by decide) rfl ?_
                first | exact K41 | (exfalso; have hz := hok.2; unfold isC isS at hz; omega)
              · rw [jb_1] at c_31
                refine jr_iconst (1) dX9_lay_34 (by decide) ?_
                refine jr_goto 39 dX9_lay_35 (by decide) ?_
                refine jr_istore_4 dX9_lay_39 (by decide) rfl ?_
                first | exact K41 | (exfalso; have hz := hok.2; unfold isC isS at hz; omega)
  · refine jr_iload_n dX9_lay_0 rfl ?_
    refine jr_if_eq 34 dX9_lay_1 (by decide) (fun c_1 => ?_) (fun c_1 => ?_)
    · simp only [lt_i, le_i, eq_i, Int32.reduceToInt] at c_1
      refine jr_iconst (1) dX9_lay_34 (by decide) ?_
      refine jr_goto 39 dX9_lay_35 (by decide) ?_
      refine jr_istore_4 dX9_lay_39 (by decide) rfl ?_
      refine jr_iload_n dX9_lay_41 rfl ?_
      refine jc_Si (c_isSlot g _ _) lkX9_309 rfl rfl (Nat.le_of_ble_eq_true rfl) (Nat.le_of_ble_eq_true rfl) dX9_lay_42 (fun r_42 w_42 h_42 => ?_)
      obtain ⟨rfl, rfl⟩ := h_42
      refine jr_if_eq 53 dX9_lay_45 (by decide) (fun c_45 => ?_) (fun c_45 => ?_)
      · rw [jb_0] at c_45
        refine jr_ldc (-1000000001) ckX9_83 dX9_lay_53 ?_
        refine jr_iret rfl dX9_lay_55 ?_
        exact hQ _ _ (finL (by rw [F_lay, if_pos hok]) hid)
      · rw [jb_1] at c_45
        refine jr_iload dX9_lay_48 rfl ?_
        refine jr_if_ne 56 dX9_lay_50 (by decide) (fun c_50 => ?_) (fun c_50 => absurd c_50 (by decide))
        exfalso; first | (exact absurd rfl c_50) | (refine hok ⟨by omega, ?_⟩; unfold isC isS; omega)
    · simp only [lt_i, le_i, eq_i, Int32.reduceToInt] at c_1
      refine jr_iload_n dX9_lay_4 rfl ?_
      refine jr_iconst (3) dX9_lay_5 (by decide) ?_
      refine jr_icmp_eq 34 dX9_lay_6 (by decide) (fun c_6 => ?_) (fun c_6 => ?_)
      · simp only [lt_i, le_i, eq_i, Int32.reduceToInt] at c_6
        refine jr_iconst (1) dX9_lay_34 (by decide) ?_
        refine jr_goto 39 dX9_lay_35 (by decide) ?_
        refine jr_istore_4 dX9_lay_39 (by decide) rfl ?_
        refine jr_iload_n dX9_lay_41 rfl ?_
        refine jc_Si (c_isSlot g _ _) lkX9_309 rfl rfl (Nat.le_of_ble_eq_true rfl) (Nat.le_of_ble_eq_true rfl) dX9_lay_42 (fun r_42 w_42 h_42 => ?_)
        obtain ⟨rfl, rfl⟩ := h_42
        refine jr_if_eq 53 dX9_lay_45 (by decide) (fun c_45 => ?_) (fun c_45 => ?_)
        · rw [jb_0] at c_45
          refine jr_ldc (-1000000001) ckX9_83 dX9_lay_53 ?_
          refine jr_iret rfl dX9_lay_55 ?_
          exact hQ _ _ (finL (by rw [F_lay, if_pos hok]) hid)
        · rw [jb_1] at c_45
          refine jr_iload dX9_lay_48 rfl ?_
          refine jr_if_ne 56 dX9_lay_50 (by decide) (fun c_50 => ?_) (fun c_50 => absurd c_50 (by decide))
          exfalso; first | (exact absurd rfl c_50) | (refine hok ⟨by omega, ?_⟩; unfold isC isS; omega)
      · simp only [lt_i, le_i, eq_i, Int32.reduceToInt] at c_6
        refine jr_iload_n dX9_lay_9 rfl ?_
        refine jr_iconst (1) dX9_lay_10 (by decide) ?_
        refine jr_icmp_ne 22 dX9_lay_11 (by decide) (fun c_11 => ?_) (fun c_11 => ?_)
        · simp only [lt_i, le_i, eq_i, Int32.reduceToInt] at c_11
          refine jr_iload_n dX9_lay_22 rfl ?_
          refine jr_iconst (2) dX9_lay_23 (by decide) ?_
          refine jr_icmp_ne 38 dX9_lay_24 (by decide) (fun c_24 => ?_) (fun c_24 => ?_)
          · simp only [lt_i, le_i, eq_i, Int32.reduceToInt] at c_24
            refine jr_iconst (0) dX9_lay_38 (by decide) ?_
            refine jr_istore_4 dX9_lay_39 (by decide) rfl ?_
            refine jr_iload_n dX9_lay_41 rfl ?_
            refine jc_Si (c_isSlot g _ _) lkX9_309 rfl rfl (Nat.le_of_ble_eq_true rfl) (Nat.le_of_ble_eq_true rfl) dX9_lay_42 (fun r_42 w_42 h_42 => ?_)
            obtain ⟨rfl, rfl⟩ := h_42
            refine jr_if_eq 53 dX9_lay_45 (by decide) (fun c_45 => ?_) (fun c_45 => ?_)
            · rw [jb_0] at c_45
              refine jr_ldc (-1000000001) ckX9_83 dX9_lay_53 ?_
              refine jr_iret rfl dX9_lay_55 ?_
              exact hQ _ _ (finL (by rw [F_lay, if_pos hok]) hid)
            · rw [jb_1] at c_45
              refine jr_iload dX9_lay_48 rfl ?_
              refine jr_if_ne 56 dX9_lay_50 (by decide) (fun c_50 => absurd (by decide) c_50) (fun c_50 => ?_)
              refine jr_ldc (-1000000001) ckX9_83 dX9_lay_53 ?_
              refine jr_iret rfl dX9_lay_55 ?_
              exact hQ _ _ (finL (by rw [F_lay, if_pos hok]) hid)
          · simp only [lt_i, le_i, eq_i, Int32.reduceToInt] at c_24
            refine jr_iload_n dX9_lay_27 rfl ?_
            refine jc_Si (c_isSheet g _ _) lkX9_178 rfl rfl (Nat.le_of_ble_eq_true rfl) (Nat.le_of_ble_eq_true rfl) dX9_lay_28 (fun r_28 w_28 h_28 => ?_)
            obtain ⟨rfl, rfl⟩ := h_28
            refine jr_if_eq 38 dX9_lay_31 (by decide) (fun c_31 => ?_) (fun c_31 => ?_)
            · rw [jb_0] at c_31
              refine jr_iconst (0) dX9_lay_38 (by decide) ?_
              refine jr_istore_4 dX9_lay_39 (by decide) rfl ?_
              refine jr_iload_n dX9_lay_41 rfl ?_
              refine jc_Si (c_isSlot g _ _) lkX9_309 rfl rfl (Nat.le_of_ble_eq_true rfl) (Nat.le_of_ble_eq_true rfl) dX9_lay_42 (fun r_42 w_42 h_42 => ?_)
              obtain ⟨rfl, rfl⟩ := h_42
              refine jr_if_eq 53 dX9_lay_45 (by decide) (fun c_45 => ?_) (fun c_45 => ?_)
              · rw [jb_0] at c_45
                refine jr_ldc (-1000000001) ckX9_83 dX9_lay_53 ?_
                refine jr_iret rfl dX9_lay_55 ?_
                exact hQ _ _ (finL (by rw [F_lay, if_pos hok]) hid)
              · rw [jb_1] at c_45
                refine jr_iload dX9_lay_48 rfl ?_
                refine jr_if_ne 56 dX9_lay_50 (by decide) (fun c_50 => absurd (by decide) c_50) (fun c_50 => ?_)
                refine jr_ldc (-1000000001) ckX9_83 dX9_lay_53 ?_
                refine jr_iret rfl dX9_lay_55 ?_
                exact hQ _ _ (finL (by rw [F_lay, if_pos hok]) hid)
            · rw [jb_1] at c_31
              refine jr_iconst (1) dX9_lay_34 (by decide) ?_
              refine jr_goto 39 dX9_lay_35 (by decide) ?_
              refine jr_istore_4 dX9_lay_39 (by decide) rfl ?_
              refine jr_iload_n dX9_lay_41 rfl ?_
              refine jc_Si (c_isSlot g _ _) lkX9_309 rfl rfl (Nat.le_of_ble_eq_true rfl) (Nat.le_of_ble_eq_true rfl) dX9_lay_42 (fun r_42 w_42 h_42 => ?_)
              obtain ⟨rfl, rfl⟩ := h_42
              refine jr_if_eq 53 dX9_lay_45 (by decide) (fun c_45 => ?_) (fun c_45 => ?_)
              · rw [jb_0] at c_45
                refine jr_ldc (-1000000001) ckX9_83 dX9_lay_53 ?_
                refine jr_iret rfl dX9_lay_55 ?_
                exact hQ _ _ (finL (by rw [F_lay, if_pos hok]) hid)
              · rw [jb_1] at c_45
                refine jr_iload dX9_lay_48 rfl ?_
                refine jr_if_ne 56 dX9_lay_50 (by decide) (fun c_50 => ?_) (fun c_50 => absurd c_50 (by decide))
                exfalso; first | (exact absurd rfl c_50) | (refine hok ⟨by omega, ?_⟩; unfold isC isS; omega)
        · simp only [lt_i, le_i, eq_i, Int32.reduceToInt] at c_11
          refine jr_aload_n dX9_lay_14 rfl ?_
          refine jr_iload_n dX9_lay_15 rfl ?_
          refine jc_Vi (c_isClock g _ hw _ (sN s 0) h6 (by rw [hs]; exact h0.1)) lkX9_107 (hw.k rfl) rfl rfl (Nat.le_of_ble_eq_true rfl) (Nat.le_of_ble_eq_true rfl) dX9_lay_16 (fun r_16 w_16 h_16 => ?_)
          obtain ⟨rfl, rfl⟩ := h_16
          refine jr_if_ne 34 dX9_lay_19 (by decide) (fun c_19 => ?_) (fun c_19 => ?_)
          · rw [jb_1] at c_19
            refine jr_iconst (1) dX9_lay_34 (by decide) ?_
            refine jr_goto 39 dX9_lay_35 (by decide) ?_
            refine jr_istore_4 dX9_lay_39 (by decide) rfl ?_
            refine jr_iload_n dX9_lay_41 rfl ?_
            refine jc_Si (c_isSlot g _ _) lkX9_309 rfl rfl (Nat.le_of_ble_eq_true rfl) (Nat.le_of_ble_eq_true rfl) dX9_lay_42 (fun r_42 w_42 h_42 => ?_)
            obtain ⟨rfl, rfl⟩ := h_42
            refine jr_if_eq 53 dX9_lay_45 (by decide) (fun c_45 => ?_) (fun c_45 => ?_)
            · rw [jb_0] at c_45
              refine jr_ldc (-1000000001) ckX9_83 dX9_lay_53 ?_
              refine jr_iret rfl dX9_lay_55 ?_
              exact hQ _ _ (finL (by rw [F_lay, if_pos hok]) hid)
            · rw [jb_1] at c_45
              refine jr_iload dX9_lay_48 rfl ?_
              refine jr_if_ne 56 dX9_lay_50 (by decide) (fun c_50 => ?_) (fun c_50 => absurd c_50 (by decide))
              exfalso; first | (exact absurd rfl c_50) | (refine hok ⟨by omega, ?_⟩; unfold isC isS; omega)
          · rw [jb_0] at c_19
            refine jr_iload_n dX9_lay_22 rfl ?_
            refine jr_iconst (2) dX9_lay_23 (by decide) ?_
            refine jr_icmp_ne 38 dX9_lay_24 (by decide) (fun c_24 => ?_) (fun c_24 => ?_)
            · simp only [lt_i, le_i, eq_i, Int32.reduceToInt] at c_24
              refine jr_iconst (0) dX9_lay_38 (by decide) ?_
              refine jr_istore_4 dX9_lay_39 (by decide) rfl ?_
              refine jr_iload_n dX9_lay_41 rfl ?_
              refine jc_Si (c_isSlot g _ _) lkX9_309 rfl rfl (Nat.le_of_ble_eq_true rfl) (Nat.le_of_ble_eq_true rfl) dX9_lay_42 (fun r_42 w_42 h_42 => ?_)
              obtain ⟨rfl, rfl⟩ := h_42
              refine jr_if_eq 53 dX9_lay_45 (by decide) (fun c_45 => ?_) (fun c_45 => ?_)
              · rw [jb_0] at c_45
                refine jr_ldc (-1000000001) ckX9_83 dX9_lay_53 ?_
                refine jr_iret rfl dX9_lay_55 ?_
                exact hQ _ _ (finL (by rw [F_lay, if_pos hok]) hid)
              · rw [jb_1] at c_45
                refine jr_iload dX9_lay_48 rfl ?_
                refine jr_if_ne 56 dX9_lay_50 (by decide) (fun c_50 => absurd (by decide) c_50) (fun c_50 => ?_)
                refine jr_ldc (-1000000001) ckX9_83 dX9_lay_53 ?_
                refine jr_iret rfl dX9_lay_55 ?_
                exact hQ _ _ (finL (by rw [F_lay, if_pos hok]) hid)
            · simp only [lt_i, le_i, eq_i, Int32.reduceToInt] at c_24
              refine jr_iload_n dX9_lay_27 rfl ?_
              refine jc_Si (c_isSheet g _ _) lkX9_178 rfl rfl (Nat.le_of_ble_eq_true rfl) (Nat.le_of_ble_eq_true rfl) dX9_lay_28 (fun r_28 w_28 h_28 => ?_)
              obtain ⟨rfl, rfl⟩ := h_28
              refine jr_if_eq 38 dX9_lay_31 (by decide) (fun c_31 => ?_) (fun c_31 => ?_)
              · rw [jb_0] at c_31
                refine jr_iconst (0) dX9_lay_38 (by decide) ?_
                refine jr_istore_4 dX9_lay_39 (by decide) rfl ?_
                refine jr_iload_n dX9_lay_41 rfl ?_
                refine jc_Si (c_isSlot g _ _) lkX9_309 rfl rfl (Nat.le_of_ble_eq_true rfl) (Nat.le_of_ble_eq_true rfl) dX9_lay_42 (fun r_42 w_42 h_42 => ?_)
                obtain ⟨rfl, rfl⟩ := h_42
                refine jr_if_eq 53 dX9_lay_45 (by decide) (fun c_45 => ?_) (fun c_45 => ?_)
                · rw [jb_0] at c_45
                  refine jr_ldc (-1000000001) ckX9_83 dX9_lay_53 ?_
                  refine jr_iret rfl dX9_lay_55 ?_
                  exact hQ _ _ (finL (by rw [F_lay, if_pos hok]) hid)
                · rw [jb_1] at c_45
                  refine jr_iload dX9_lay_48 rfl ?_
                  refine jr_if_ne 56 dX9_lay_50 (by decide) (fun c_50 => absurd (by decide) c_50) (fun c_50 => ?_)
                  refine jr_ldc (-1000000001) ckX9_83 dX9_lay_53 ?_
                  refine jr_iret rfl dX9_lay_55 ?_
                  exact hQ _ _ (finL (by rw [F_lay, if_pos hok]) hid)
              · rw [jb_1] at c_31
                refine jr_iconst (1) dX9_lay_34 (by decide) ?_
                refine jr_goto 39 dX9_lay_35 (by decide) ?_
                refine jr_istore_4 dX9_lay_39 (by decide) rfl ?_
                refine jr_iload_n dX9_lay_41 rfl ?_
                refine jc_Si (c_isSlot g _ _) lkX9_309 rfl rfl (Nat.le_of_ble_eq_true rfl) (Nat.le_of_ble_eq_true rfl) dX9_lay_42 (fun r_42 w_42 h_42 => ?_)
                obtain ⟨rfl, rfl⟩ := h_42
                refine jr_if_eq 53 dX9_lay_45 (by decide) (fun c_45 => ?_) (fun c_45 => ?_)
                · rw [jb_0] at c_45
                  refine jr_ldc (-1000000001) ckX9_83 dX9_lay_53 ?_
                  refine jr_iret rfl dX9_lay_55 ?_
                  exact hQ _ _ (finL (by rw [F_lay, if_pos hok]) hid)
                · rw [jb_1] at c_45
                  refine jr_iload dX9_lay_48 rfl ?_
                  refine jr_if_ne 56 dX9_lay_50 (by decide) (fun c_50 => ?_) (fun c_50 => absurd c_50 (by decide))
                  exfalso; first | (exact absurd rfl c_50) | (refine hok ⟨by omega, ?_⟩; unfold isC isS; omega)
