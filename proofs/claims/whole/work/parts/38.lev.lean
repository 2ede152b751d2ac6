-- the reference's reader: pieces, a level at a time
def scT : Nat → Prop := fun i => i = 78 ∨ i = 79
theorem psg_e {w : Wd} {T : Nat → Int32} {n a0 : Nat} {p : PS} (hR : PsR w T n a0 p) (x : Int32) : jb (wI w 78 18 = 3 ∧ wI w 78 20 = x) = jb (psSg x p) := by
  rw [hR.2.2.1.2.2.1, hR.2.2.1.2.2.2.2]
/-- only the reader's own fields and the row of steps change -/
def ST (w w' : Wd) : Prop := Sm scT w w' ∧ ∀ j, j < 16 ∨ 25 < j → wI w' 78 j = wI w 78 j
theorem ST.rf {w : Wd} : ST w w := ⟨Sm.rf, fun _ _ => rfl⟩
theorem ST.tr {w w1 w2 : Wd} (h1 : ST w w1) (h2 : ST w1 w2) : ST w w2 := ⟨h1.1.tr h2.1, fun j hj => (h2.2 j hj).trans (h1.2 j hj)⟩
theorem ST.wf {w w1 : Wd} (h : ST w w1) (hw : Wf w) : Wf w1 := h.1.wf hw
theorem ST.nx {w : Wd} {f : Nat → Int32} (h : TkO (wI w 78) f) : ST w (sR w 78 f) := ⟨Sm.sR (Or.inl rfl), fun j hj => by rw [wI_sR_s]; exact h j (by omega)⟩
theorem ST.u {w : Wd} {k : Nat} {v : Int32} (hk : 16 ≤ k ∧ k ≤ 25) : ST w (sR w 78 (upd (wI w 78) k v)) := ⟨Sm.sR (Or.inl rfl), fun j hj => by rw [wI_sR_s, pk_un (by omega)]⟩
theorem ST.st {w : Wd} {f : Nat → Int32} {v : Int32} : ST w (sR (sR w 79 f) 78 (upd (wI w 78) 23 v)) := ⟨(Sm.sR (Or.inr rfl)).tr (Sm.sR (Or.inl rfl)), fun j hj => by rw [wI_sR_s, pk_un (by omega)]⟩
/-- a method that reads a piece as F does -/
def RdC (g : Cx) (y : MethodName) (cc : ByteArray) (nL : Nat) (T : Nat → Int32) (n B a0 key f d : Nat) (F : PS → Bool × PS) : Prop :=
  ∀ w, Wf w → ∀ p, PI T n B p → 17 ≤ f + p.2.1 + p.2.2.1 → PsR w T n a0 p → CI g y cc nL (some .boolean) d 0 0 [.ref (gb g + 78), .int (nI key)] w (fun r w' => r = jb ((F p).1 = true) ∧ PsR w' T n a0 (F p).2 ∧ ST w w')
theorem c_term (g : Cx) {T : Nat → Int32} {n B a0 key f d : Nat} {F : PS → Bool × PS} (hn : n ≤ 96) (hB : a0 + 2 * B ≤ 3040) (hd : 3 ≤ d) (hG : Go T n key a0 B F) (hsub : RdC g yX9_part0 cX9_part0 2 T n B a0 key f d F) : RdC g yX9_term cX9_term 3 T n B a0 key f (d + 1) (psBi T n a0 opTe F) := by
  intro w hw p hp hf hR
  refine CI.of (own := RX9) (nm := "term") (lv := [some (.ref (gb g + 78)), some (.int (nI key)), none]) (by decide) rfl rfl (Nat.le_of_ble_eq_true rfl) rfl (fun Q hQ => ?_)
  have L : ∀ (m : Nat) (p1 : PS) (w1 : Wd) (a2 : Option Value), PI T n B p1 → 1 ≤ dpG p1.2.2.2.2.2 a0 p1.2.2.2.1 → n < m + p1.1.1 → 17 ≤ f + p1.2.1 + p1.2.2.1 → PsR w1 T n a0 p1 → ST w w1 → (∀ r w', r = jb ((psLp T n a0 opTe F m p1).1 = true) → PsR w' T n a0 (psLp T n a0 opTe F m p1).2 → ST w w' → Q (some (.int r)) w') → RR g RX9 cX9_term 3 (some .boolean) "term" (d + 1) 0 0 0 0 10 [some (.ref (gb g + 78)), some (.int (nI key)), a2] [] w1 Q := by
    intro m
    induction m with
    | zero =>
      intro p1 w1 a2 hp1 hd1 hm hf1 hR1 hS hK
      have := hp1.1.1
      have := hp1.1.2.1
      omega
    | succ m ih =>
      intro p1 w1 a2 hp1 hd1 hm hf1 hR1 hS hK
      have hw1 := hS.wf hw
      by_cases ho : opTe p1 = true
      · obtain ⟨h3, hv⟩ := opTe_s p1 ho
        obtain ⟨hq, s1, s2, s3⟩ := Lp_one hG hp1 h3 hv hd1
        have htb := (hp1.1.2.2.1 (by rw [h3]; decide))
        have K : RR g RX9 cX9_term 3 (some .boolean) "term" (d + 1) 0 0 0 0 28 [some (.ref (gb g + 78)), some (.int (nI key)), a2] [] w1 Q := by
          by_cases h1 : (F (psNx T n p1)).1 = true
          · obtain ⟨v2, hB2, v3, hP3, d3, t3⟩ := s3 h1
            have eL : psLp T n a0 opTe F (m + 1) p1 = psLp T n a0 opTe F m (psSt a0 2 p1.1.2.2.2.2 (F (psNx T n p1)).2) := by
              simp only [psLp]
              rw [if_pos ho, if_pos h1]
            rw [eL] at hK
            have hg := v3.2.1
            have hg1 := v3.1
            have hg2 := v2.2.1
            have hg3 := v2.1
            have hdd := v3.2.2.2.2
            have hx : (psSt a0 2 p1.1.2.2.2.2 (F (psNx T n p1)).2).1.1 = (F (psNx T n p1)).2.1.1 := rfl
            refine jr_aload_n dX9_term_28 rfl ?_
            refine gfX9_215 dX9_term_29 (hw1.k rfl) ?_
            rw [hR1.2.2.1.2.2.2.2]
            refine jr_istore_2 dX9_term_32 (by decide) rfl ?_
            refine jr_aload_n dX9_term_33 rfl ?_
            refine jc_Vv (c_nextToken g _ hw1 T hR1.1 n hn hR1.2.1 _ hR1.2.2.1 hp1.1.1) lkX9_244 (hw1.k rfl) rfl rfl (by omega) (Nat.le_of_ble_eq_true rfl) dX9_term_34 (fun w_34 h_34 => ?_)
            obtain ⟨f2, rfl, t1, t2⟩ := h_34
            refine jr_aload_n dX9_term_37 rfl ?_
            refine jr_iload_n dX9_term_38 rfl ?_
            refine jc_Vi (hsub _ (hw1.sR _ _) _ hq (by exact hf1) (hR1.nx t1 t2)) lkX9_259 (hw1.k rfl) rfl rfl (by omega) (Nat.le_of_ble_eq_true rfl) dX9_term_39 (fun r_39 w_39 h_39 => ?_)
            obtain ⟨rfl, hR2, hS2⟩ := h_39
            refine jr_if_ne 47 dX9_term_42 (by decide) (fun c_42 => ?_) (fun c_42 => absurd c_42 (jb_1.mpr h1))
            refine jr_aload_n dX9_term_47 rfl ?_
            refine jr_iconst (2) dX9_term_48 (by decide) ?_
            refine jr_iload_n dX9_term_49 rfl ?_
            refine jc_Vv (c_step g _ (hS2.wf (hw1.sR _ _)) a0 _ hR2.2.2.2.2.2.2.1 hR2.2.2.2.2.2.1 (by omega) _ _) lkX9_247 ((hS2.wf (hw1.sR _ _)).k rfl) rfl rfl (by omega) (Nat.le_of_ble_eq_true rfl) dX9_term_50 (fun w_50 h_50 => ?_)
            obtain rfl := h_50
            refine jr_goto 10 dX9_term_53 (by decide) ?_
            exact ih _ _ _ hP3 (by omega) (by rw [hx]; omega) (by show 17 ≤ f + (F (psNx T n p1)).2.2.1 + (F (psNx T n p1)).2.2.2.1; rw [d3, t3]; exact hf1) (hR2.st 2 _) (((hS.tr (ST.nx t2)).tr hS2).tr ST.st) hK
          · have eL : psLp T n a0 opTe F (m + 1) p1 = (false, (F (psNx T n p1)).2) := by
              simp only [psLp]
              rw [if_pos ho, if_neg h1]
            rw [eL] at hK
            refine jr_aload_n dX9_term_28 rfl ?_
            refine gfX9_215 dX9_term_29 (hw1.k rfl) ?_
            rw [hR1.2.2.1.2.2.2.2]
            refine jr_istore_2 dX9_term_32 (by decide) rfl ?_
            refine jr_aload_n dX9_term_33 rfl ?_
            refine jc_Vv (c_nextToken g _ hw1 T hR1.1 n hn hR1.2.1 _ hR1.2.2.1 hp1.1.1) lkX9_244 (hw1.k rfl) rfl rfl (by omega) (Nat.le_of_ble_eq_true rfl) dX9_term_34 (fun w_34 h_34 => ?_)
            obtain ⟨f2, rfl, t1, t2⟩ := h_34
            refine jr_aload_n dX9_term_37 rfl ?_
            refine jr_iload_n dX9_term_38 rfl ?_
            refine jc_Vi (hsub _ (hw1.sR _ _) _ hq (by exact hf1) (hR1.nx t1 t2)) lkX9_259 (hw1.k rfl) rfl rfl (by omega) (Nat.le_of_ble_eq_true rfl) dX9_term_39 (fun r_39 w_39 h_39 => ?_)
            obtain ⟨rfl, hR2, hS2⟩ := h_39
            refine jr_if_ne 47 dX9_term_42 (by decide) (fun c_42 => absurd (jb_f h1) c_42) (fun c_42 => ?_)
            refine jr_iconst (0) dX9_term_45 (by decide) ?_
            refine jr_zret rfl (by decide) dX9_term_46 ?_
            exact hK _ _ (jb_f' Bool.false_ne_true) hR2 ((hS.tr (ST.nx t2)).tr hS2)
        refine jr_aload_n dX9_term_10 rfl ?_
        refine jr_bipush (42) dX9_term_11 (by decide) ?_
        refine jc_Vi (c_isSign g _ hw1 _) lkX9_241 (hw1.k rfl) rfl rfl (by omega) (Nat.le_of_ble_eq_true rfl) dX9_term_13 (fun r_13 w_13 h_13 => ?_)
        obtain ⟨rfl, rfl⟩ := h_13
        rw [psg_e hR1]
        refine jr_if_ne 28 dX9_term_16 (by decide) (fun c_16 => ?_) (fun c_16 => ?_)
        · rw [jb_1] at c_16
          exact K
        · rw [jb_0] at c_16
          refine jr_aload_n dX9_term_19 rfl ?_
          refine jr_bipush (47) dX9_term_20 (by decide) ?_
          refine jc_Vi (c_isSign g _ hw1 _) lkX9_241 (hw1.k rfl) rfl rfl (by omega) (Nat.le_of_ble_eq_true rfl) dX9_term_22 (fun r_22 w_22 h_22 => ?_)
          obtain ⟨rfl, rfl⟩ := h_22
          rw [psg_e hR1]
          refine jr_if_eq 56 dX9_term_25 (by decide) (fun c_25 => ?_) (fun c_25 => ?_)
          · rw [jb_0] at c_25
            exfalso; exact (of_decide_eq_true ho).elim c_16 c_25
          · rw [jb_1] at c_25
            exact K
      · have eL : psLp T n a0 opTe F (m + 1) p1 = (true, p1) := by
          simp only [psLp]
          rw [if_neg ho]
        rw [eL] at hK
        refine jr_aload_n dX9_term_10 rfl ?_
        refine jr_bipush (42) dX9_term_11 (by decide) ?_
        refine jc_Vi (c_isSign g _ hw1 _) lkX9_241 (hw1.k rfl) rfl rfl (by omega) (Nat.le_of_ble_eq_true rfl) dX9_term_13 (fun r_13 w_13 h_13 => ?_)
        obtain ⟨rfl, rfl⟩ := h_13
        rw [psg_e hR1]
        refine jr_if_ne 28 dX9_term_16 (by decide) (fun c_16 => ?_) (fun c_16 => ?_)
        · rw [jb_1] at c_16
          exfalso; exact ho (decide_eq_true (by first | exact Or.inl c_16 | exact Or.inr c_25))
        · rw [jb_0] at c_16
          refine jr_aload_n dX9_term_19 rfl ?_
          refine jr_bipush (47) dX9_term_20 (by decide) ?_
          refine jc_Vi (c_isSign g _ hw1 _) lkX9_241 (hw1.k rfl) rfl rfl (by omega) (Nat.le_of_ble_eq_true rfl) dX9_term_22 (fun r_22 w_22 h_22 => ?_)
          obtain ⟨rfl, rfl⟩ := h_22
          rw [psg_e hR1]
          refine jr_if_eq 56 dX9_term_25 (by decide) (fun c_25 => ?_) (fun c_25 => ?_)
          · rw [jb_0] at c_25
            refine jr_iconst (1) dX9_term_56 (by decide) ?_
            refine jr_zret rfl (by decide) dX9_term_57 ?_
            exact hK _ _ (jb_t' rfl) hR1 hS
          · rw [jb_1] at c_25
            exfalso; exact ho (decide_eq_true (by first | exact Or.inl c_16 | exact Or.inr c_25))
  obtain ⟨g1, g2, g3⟩ := hG p hp
  by_cases h1 : (F p).1 = true
  · obtain ⟨w3, d3, t3⟩ := g3 h1
    have hq : PI T n B (F p).2 := hp.to w3 (by omega) g1 (by rw [d3]; exact hp.2.1) (by rw [t3]; exact hp.2.2.1)
    have hdd := w3.2.2.2.2
    have eB : psBi T n a0 opTe F p = psLp T n a0 opTe F 97 (F p).2 := by
      rw [psBi, if_pos h1]
    refine jr_aload_n dX9_term_0 rfl ?_
    refine jr_iload_n dX9_term_1 rfl ?_
    refine jc_Vi (hsub _ hw _ hp hf hR) lkX9_259 (hw.k rfl) rfl rfl (by omega) (Nat.le_of_ble_eq_true rfl) dX9_term_2 (fun r_2 w_2 h_2 => ?_)
    obtain ⟨rfl, hR2, hS2⟩ := h_2
    refine jr_if_ne 10 dX9_term_5 (by decide) (fun c_5 => ?_) (fun c_5 => absurd c_5 (jb_1.mpr h1))
    exact L 97 _ _ _ hq (by omega) (by omega) (by rw [d3, t3]; exact hf) hR2 hS2 (fun r w' e1 e2 e3 => hQ _ _ ⟨by rw [eB]; exact e1, by rw [eB]; exact e2, e3⟩)
  · have eB : psBi T n a0 opTe F p = (false, (F p).2) := by
      rw [psBi, if_neg h1]
    refine jr_aload_n dX9_term_0 rfl ?_
    refine jr_iload_n dX9_term_1 rfl ?_
    refine jc_Vi (hsub _ hw _ hp hf hR) lkX9_259 (hw.k rfl) rfl rfl (by omega) (Nat.le_of_ble_eq_true rfl) dX9_term_2 (fun r_2 w_2 h_2 => ?_)
    obtain ⟨rfl, hR2, hS2⟩ := h_2
    refine jr_if_ne 10 dX9_term_5 (by decide) (fun c_5 => absurd (jb_f h1) c_5) (fun c_5 => ?_)
    refine jr_iconst (0) dX9_term_8 (by decide) ?_
    refine jr_zret rfl (by decide) dX9_term_9 ?_
    exact hQ _ _ ⟨by rw [eB]; exact jb_f' Bool.false_ne_true, by rw [eB]; exact hR2, hS2⟩
theorem c_sum (g : Cx) {T : Nat → Int32} {n B a0 key f d : Nat} {F : PS → Bool × PS} (hn : n ≤ 96) (hB : a0 + 2 * B ≤ 3040) (hd : 3 ≤ d) (hG : Go T n key a0 B F) (hsub : RdC g yX9_term cX9_term 3 T n B a0 key f d F) : RdC g yX9_sum cX9_sum 3 T n B a0 key f (d + 1) (psBi T n a0 opSu F) := by
  intro w hw p hp hf hR
  refine CI.of (own := RX9) (nm := "sum") (lv := [some (.ref (gb g + 78)), some (.int (nI key)), none]) (by decide) rfl rfl (Nat.le_of_ble_eq_true rfl) rfl (fun Q hQ => ?_)
  have L : ∀ (m : Nat) (p1 : PS) (w1 : Wd) (a2 : Option Value), PI T n B p1 → 1 ≤ dpG p1.2.2.2.2.2 a0 p1.2.2.2.1 → n < m + p1.1.1 → 17 ≤ f + p1.2.1 + p1.2.2.1 → PsR w1 T n a0 p1 → ST w w1 → (∀ r w', r = jb ((psLp T n a0 opSu F m p1).1 = true) → PsR w' T n a0 (psLp T n a0 opSu F m p1).2 → ST w w' → Q (some (.int r)) w') → RR g RX9 cX9_sum 3 (some .boolean) "sum" (d + 1) 0 0 0 0 10 [some (.ref (gb g + 78)), some (.int (nI key)), a2] [] w1 Q := by
    intro m
    induction m with
    | zero =>
      intro p1 w1 a2 hp1 hd1 hm hf1 hR1 hS hK
      have := hp1.1.1
      have := hp1.1.2.1
      omega
    | succ m ih =>
      intro p1 w1 a2 hp1 hd1 hm hf1 hR1 hS hK
      have hw1 := hS.wf hw
      by_cases ho : opSu p1 = true
      · obtain ⟨h3, hv⟩ := opSu_s p1 ho
        obtain ⟨hq, s1, s2, s3⟩ := Lp_one hG hp1 h3 hv hd1
        have htb := (hp1.1.2.2.1 (by rw [h3]; decide))
        have K : RR g RX9 cX9_sum 3 (some .boolean) "sum" (d + 1) 0 0 0 0 28 [some (.ref (gb g + 78)), some (.int (nI key)), a2] [] w1 Q := by
          by_cases h1 : (F (psNx T n p1)).1 = true
          · obtain ⟨v2, hB2, v3, hP3, d3, t3⟩ := s3 h1
            have eL : psLp T n a0 opSu F (m + 1) p1 = psLp T n a0 opSu F m (psSt a0 2 p1.1.2.2.2.2 (F (psNx T n p1)).2) := by
              simp only [psLp]
              rw [if_pos ho, if_pos h1]
            rw [eL] at hK
            have hg := v3.2.1
            have hg1 := v3.1
            have hg2 := v2.2.1
            have hg3 := v2.1
            have hdd := v3.2.2.2.2
            have hx : (psSt a0 2 p1.1.2.2.2.2 (F (psNx T n p1)).2).1.1 = (F (psNx T n p1)).2.1.1 := rfl
            refine jr_aload_n dX9_sum_28 rfl ?_
            refine gfX9_215 dX9_sum_29 (hw1.k rfl) ?_
            rw [hR1.2.2.1.2.2.2.2]
            refine jr_istore_2 dX9_sum_32 (by decide) rfl ?_
            refine jr_aload_n dX9_sum_33 rfl ?_
            refine jc_Vv (c_nextToken g _ hw1 T hR1.1 n hn hR1.2.1 _ hR1.2.2.1 hp1.1.1) lkX9_244 (hw1.k rfl) rfl rfl (by omega) (Nat.le_of_ble_eq_true rfl) dX9_sum_34 (fun w_34 h_34 => ?_)
            obtain ⟨f2, rfl, t1, t2⟩ := h_34
            refine jr_aload_n dX9_sum_37 rfl ?_
            refine jr_iload_n dX9_sum_38 rfl ?_
            refine jc_Vi (hsub _ (hw1.sR _ _) _ hq (by exact hf1) (hR1.nx t1 t2)) lkX9_256 (hw1.k rfl) rfl rfl (by omega) (Nat.le_of_ble_eq_true rfl) dX9_sum_39 (fun r_39 w_39 h_39 => ?_)
            obtain ⟨rfl, hR2, hS2⟩ := h_39
            refine jr_if_ne 47 dX9_sum_42 (by decide) (fun c_42 => ?_) (fun c_42 => absurd c_42 (jb_1.mpr h1))
            refine jr_aload_n dX9_sum_47 rfl ?_
            refine jr_iconst (2) dX9_sum_48 (by decide) ?_
            refine jr_iload_n dX9_sum_49 rfl ?_
            refine jc_Vv (c_step g _ (hS2.wf (hw1.sR _ _)) a0 _ hR2.2.2.2.2.2.2.1 hR2.2.2.2.2.2.1 (by omega) _ _) lkX9_247 ((hS2.wf (hw1.sR _ _)).k rfl) rfl rfl (by omega) (Nat.le_of_ble_eq_true rfl) dX9_sum_50 (fun w_50 h_50 => ?_)
            obtain rfl := h_50
            refine jr_goto 10 dX9_sum_53 (by decide) ?_
            exact ih _ _ _ hP3 (by omega) (by rw [hx]; omega) (by show 17 ≤ f + (F (psNx T n p1)).2.2.1 + (F (psNx T n p1)).2.2.2.1; rw [d3, t3]; exact hf1) (hR2.st 2 _) (((hS.tr (ST.nx t2)).tr hS2).tr ST.st) hK
          · have eL : psLp T n a0 opSu F (m + 1) p1 = (false, (F (psNx T n p1)).2) := by
              simp only [psLp]
              rw [if_pos ho, if_neg h1]
            rw [eL] at hK
            refine jr_aload_n dX9_sum_28 rfl ?_
            refine gfX9_215 dX9_sum_29 (hw1.k rfl) ?_
            rw [hR1.2.2.1.2.2.2.2]
            refine jr_istore_2 dX9_sum_32 (by decide) rfl ?_
            refine jr_aload_n dX9_sum_33 rfl ?_
            refine jc_Vv (c_nextToken g _ hw1 T hR1.1 n hn hR1.2.1 _ hR1.2.2.1 hp1.1.1) lkX9_244 (hw1.k rfl) rfl rfl (by omega) (Nat.le_of_ble_eq_true rfl) dX9_sum_34 (fun w_34 h_34 => ?_)
            obtain ⟨f2, rfl, t1, t2⟩ := h_34
            refine jr_aload_n dX9_sum_37 rfl ?_
            refine jr_iload_n dX9_sum_38 rfl ?_
            refine jc_Vi (hsub _ (hw1.sR _ _) _ hq (by exact hf1) (hR1.nx t1 t2)) lkX9_256 (hw1.k rfl) rfl rfl (by omega) (Nat.le_of_ble_eq_true rfl) dX9_sum_39 (fun r_39 w_39 h_39 => ?_)
            obtain ⟨rfl, hR2, hS2⟩ := h_39
            refine jr_if_ne 47 dX9_sum_42 (by decide) (fun c_42 => absurd (jb_f h1) c_42) (fun c_42 => ?_)
            refine jr_iconst (0) dX9_sum_45 (by decide) ?_
            refine jr_zret rfl (by decide) dX9_sum_46 ?_
            exact hK _ _ (jb_f' Bool.false_ne_true) hR2 ((hS.tr (ST.nx t2)).tr hS2)
        refine jr_aload_n dX9_sum_10 rfl ?_
        refine jr_bipush (43) dX9_sum_11 (by decide) ?_
        refine jc_Vi (c_isSign g _ hw1 _) lkX9_241 (hw1.k rfl) rfl rfl (by omega) (Nat.le_of_ble_eq_true rfl) dX9_sum_13 (fun r_13 w_13 h_13 => ?_)
        obtain ⟨rfl, rfl⟩ := h_13
        rw [psg_e hR1]
        refine jr_if_ne 28 dX9_sum_16 (by decide) (fun c_16 => ?_) (fun c_16 => ?_)
        · rw [jb_1] at c_16
          exact K
        · rw [jb_0] at c_16
          refine jr_aload_n dX9_sum_19 rfl ?_
          refine jr_bipush (45) dX9_sum_20 (by decide) ?_
          refine jc_Vi (c_isSign g _ hw1 _) lkX9_241 (hw1.k rfl) rfl rfl (by omega) (Nat.le_of_ble_eq_true rfl) dX9_sum_22 (fun r_22 w_22 h_22 => ?_)
          obtain ⟨rfl, rfl⟩ := h_22
          rw [psg_e hR1]
          refine jr_if_eq 56 dX9_sum_25 (by decide) (fun c_25 => ?_) (fun c_25 => ?_)
          · rw [jb_0] at c_25
            exfalso; exact (of_decide_eq_true ho).elim c_16 c_25
          · rw [jb_1] at c_25
            exact K
      · have eL : psLp T n a0 opSu F (m + 1) p1 = (true, p1) := by
          simp only [psLp]
          rw [if_neg ho]
        rw [eL] at hK
        refine jr_aload_n dX9_sum_10 rfl ?_
        refine jr_bipush (43) dX9_sum_11 (by decide) ?_
        refine jc_Vi (c_isSign g _ hw1 _) lkX9_241 (hw1.k rfl) rfl rfl (by omega) (Nat.le_of_ble_eq_true rfl) dX9_sum_13 (fun r_13 w_13 h_13 => ?_)
        obtain ⟨rfl, rfl⟩ := h_13
        rw [psg_e hR1]
        refine jr_if_ne 28 dX9_sum_16 (by decide) (fun c_16 => ?_) (fun c_16 => ?_)
        · rw [jb_1] at c_16
          exfalso; exact ho (decide_eq_true (by first | exact Or.inl c_16 | exact Or.inr c_25))
        · rw [jb_0] at c_16
          refine jr_aload_n dX9_sum_19 rfl ?_
          refine jr_bipush (45) dX9_sum_20 (by decide) ?_
          refine jc_Vi (c_isSign g _ hw1 _) lkX9_241 (hw1.k rfl) rfl rfl (by omega) (Nat.le_of_ble_eq_true rfl) dX9_sum_22 (fun r_22 w_22 h_22 => ?_)
          obtain ⟨rfl, rfl⟩ := h_22
          rw [psg_e hR1]
          refine jr_if_eq 56 dX9_sum_25 (by decide) (fun c_25 => ?_) (fun c_25 => ?_)
          · rw [jb_0] at c_25
            refine jr_iconst (1) dX9_sum_56 (by decide) ?_
            refine jr_zret rfl (by decide) dX9_sum_57 ?_
            exact hK _ _ (jb_t' rfl) hR1 hS
          · rw [jb_1] at c_25
            exfalso; exact ho (decide_eq_true (by first | exact Or.inl c_16 | exact Or.inr c_25))
  obtain ⟨g1, g2, g3⟩ := hG p hp
  by_cases h1 : (F p).1 = true
  · obtain ⟨w3, d3, t3⟩ := g3 h1
    have hq : PI T n B (F p).2 := hp.to w3 (by omega) g1 (by rw [d3]; exact hp.2.1) (by rw [t3]; exact hp.2.2.1)
    have hdd := w3.2.2.2.2
    have eB : psBi T n a0 opSu F p = psLp T n a0 opSu F 97 (F p).2 := by
      rw [psBi, if_pos h1]
    refine jr_aload_n dX9_sum_0 rfl ?_
    refine jr_iload_n dX9_sum_1 rfl ?_
    refine jc_Vi (hsub _ hw _ hp hf hR) lkX9_256 (hw.k rfl) rfl rfl (by omega) (Nat.le_of_ble_eq_true rfl) dX9_sum_2 (fun r_2 w_2 h_2 => ?_)
    obtain ⟨rfl, hR2, hS2⟩ := h_2
    refine jr_if_ne 10 dX9_sum_5 (by decide) (fun c_5 => ?_) (fun c_5 => absurd c_5 (jb_1.mpr h1))
    exact L 97 _ _ _ hq (by omega) (by omega) (by rw [d3, t3]; exact hf) hR2 hS2 (fun r w' e1 e2 e3 => hQ _ _ ⟨by rw [eB]; exact e1, by rw [eB]; exact e2, e3⟩)
  · have eB : psBi T n a0 opSu F p = (false, (F p).2) := by
      rw [psBi, if_neg h1]
    refine jr_aload_n dX9_sum_0 rfl ?_
    refine jr_iload_n dX9_sum_1 rfl ?_
    refine jc_Vi (hsub _ hw _ hp hf hR) lkX9_256 (hw.k rfl) rfl rfl (by omega) (Nat.le_of_ble_eq_true rfl) dX9_sum_2 (fun r_2 w_2 h_2 => ?_)
    obtain ⟨rfl, hR2, hS2⟩ := h_2
    refine jr_if_ne 10 dX9_sum_5 (by decide) (fun c_5 => absurd (jb_f h1) c_5) (fun c_5 => ?_)
    refine jr_iconst (0) dX9_sum_8 (by decide) ?_
    refine jr_zret rfl (by decide) dX9_sum_9 ?_
    exact hQ _ _ ⟨by rw [eB]; exact jb_f' Bool.false_ne_true, by rw [eB]; exact hR2, hS2⟩
theorem c_test (g : Cx) {T : Nat → Int32} {n B a0 key f d : Nat} {F : PS → Bool × PS} (hn : n ≤ 96) (hB : a0 + 2 * B ≤ 3040) (hd : 3 ≤ d) (hG : Go T n key a0 B F) (hsub : RdC g yX9_sum cX9_sum 3 T n B a0 key f d F) : RdC g yX9_test cX9_test 3 T n B a0 key f (d + 1) (psTe T n a0 opCm F) := by
  intro w hw p hp hf hR
  refine CI.of (own := RX9) (nm := "test") (lv := [some (.ref (gb g + 78)), some (.int (nI key)), none]) (by decide) rfl rfl (Nat.le_of_ble_eq_true rfl) rfl (fun Q hQ => ?_)
  obtain ⟨g1, g2, g3⟩ := hG p hp
  by_cases h0 : (F p).1 = true
  · obtain ⟨w3, d3, t3⟩ := g3 h0
    have hp1 : PI T n B (F p).2 := hp.to w3 (by omega) g1 (by rw [d3]; exact hp.2.1) (by rw [t3]; exact hp.2.2.1)
    have hdd := w3.2.2.2.2
    have hf1 : 17 ≤ f + (F p).2.2.1 + (F p).2.2.2.1 := by rw [d3, t3]; exact hf
    have M : ∀ w1, PsR w1 T n a0 (F p).2 → ST w w1 → RR g RX9 cX9_test 3 (some .boolean) "test" (d + 1) 0 0 0 0 10 [some (.ref (gb g + 78)), some (.int (nI key)), none] [] w1 Q := by
      intro w1 hR1 hS
      have hw1 := hS.wf hw
      by_cases ho : opCm (F p).2 = true
      · obtain ⟨h3, hv⟩ := opCm_s _ ho
        obtain ⟨hq, s1, s2, s3⟩ := Lp_one hG hp1 h3 hv (by omega)
        have K : RR g RX9 cX9_test 3 (some .boolean) "test" (d + 1) 0 0 0 0 37 [some (.ref (gb g + 78)), some (.int (nI key)), none] [] w1 Q := by
          by_cases h1 : (F (psNx T n (F p).2)).1 = true
          · obtain ⟨v2, hB2, v3, hP3, d4, t4⟩ := s3 h1
            have eB : psTe T n a0 opCm F p = (true, psSt a0 2 (F p).2.1.2.2.2.2 (F (psNx T n (F p).2)).2) := by
              rw [psTe, if_pos h0, if_pos ho, if_pos h1]
            refine jr_aload_n dX9_test_37 rfl ?_
            refine gfX9_215 dX9_test_38 (hw1.k rfl) ?_
            rw [hR1.2.2.1.2.2.2.2]
            refine jr_istore_2 dX9_test_41 (by decide) rfl ?_
            refine jr_aload_n dX9_test_42 rfl ?_
            refine jc_Vv (c_nextToken g _ hw1 T hR1.1 n hn hR1.2.1 _ hR1.2.2.1 hp1.1.1) lkX9_244 (hw1.k rfl) rfl rfl (by omega) (Nat.le_of_ble_eq_true rfl) dX9_test_43 (fun w_43 h_43 => ?_)
            obtain ⟨f2, rfl, t1, t2⟩ := h_43
            refine jr_aload_n dX9_test_46 rfl ?_
            refine jr_iload_n dX9_test_47 rfl ?_
            refine jc_Vi (hsub _ (hw1.sR _ _) _ hq (by exact hf1) (hR1.nx t1 t2)) lkX9_253 (hw1.k rfl) rfl rfl (by omega) (Nat.le_of_ble_eq_true rfl) dX9_test_48 (fun r_48 w_48 h_48 => ?_)
            obtain ⟨rfl, hR2, hS2⟩ := h_48
            refine jr_if_ne 56 dX9_test_51 (by decide) (fun c_51 => ?_) (fun c_51 => absurd c_51 (jb_1.mpr h1))
            refine jr_aload_n dX9_test_56 rfl ?_
            refine jr_iconst (2) dX9_test_57 (by decide) ?_
            refine jr_iload_n dX9_test_58 rfl ?_
            refine jc_Vv (c_step g _ (hS2.wf (hw1.sR _ _)) a0 _ hR2.2.2.2.2.2.2.1 hR2.2.2.2.2.2.1 (by omega) _ _) lkX9_247 ((hS2.wf (hw1.sR _ _)).k rfl) rfl rfl (by omega) (Nat.le_of_ble_eq_true rfl) dX9_test_59 (fun w_59 h_59 => ?_)
            obtain rfl := h_59
            refine jr_iconst (1) dX9_test_62 (by decide) ?_
            refine jr_zret rfl (by decide) dX9_test_63 ?_
            exact hQ _ _ ⟨by rw [eB]; exact jb_t' rfl, by rw [eB]; exact hR2.st 2 _, ((hS.tr (ST.nx t2)).tr hS2).tr ST.st⟩
          · have eB : psTe T n a0 opCm F p = (false, (F (psNx T n (F p).2)).2) := by
              rw [psTe, if_pos h0, if_pos ho, if_neg h1]
            refine jr_aload_n dX9_test_37 rfl ?_
            refine gfX9_215 dX9_test_38 (hw1.k rfl) ?_
            rw [hR1.2.2.1.2.2.2.2]
            refine jr_istore_2 dX9_test_41 (by decide) rfl ?_
            refine jr_aload_n dX9_test_42 rfl ?_
            refine jc_Vv (c_nextToken g _ hw1 T hR1.1 n hn hR1.2.1 _ hR1.2.2.1 hp1.1.1) lkX9_244 (hw1.k rfl) rfl rfl (by omega) (Nat.le_of_ble_eq_true rfl) dX9_test_43 (fun w_43 h_43 => ?_)
            obtain ⟨f2, rfl, t1, t2⟩ := h_43
            refine jr_aload_n dX9_test_46 rfl ?_
            refine jr_iload_n dX9_test_47 rfl ?_
            refine jc_Vi (hsub _ (hw1.sR _ _) _ hq (by exact hf1) (hR1.nx t1 t2)) lkX9_253 (hw1.k rfl) rfl rfl (by omega) (Nat.le_of_ble_eq_true rfl) dX9_test_48 (fun r_48 w_48 h_48 => ?_)
            obtain ⟨rfl, hR2, hS2⟩ := h_48
            refine jr_if_ne 56 dX9_test_51 (by decide) (fun c_51 => absurd (jb_f h1) c_51) (fun c_51 => ?_)
            refine jr_iconst (0) dX9_test_54 (by decide) ?_
            refine jr_zret rfl (by decide) dX9_test_55 ?_
            exact hQ _ _ ⟨by rw [eB]; exact jb_f' Bool.false_ne_true, by rw [eB]; exact hR2, (hS.tr (ST.nx t2)).tr hS2⟩
        refine jr_aload_n dX9_test_10 rfl ?_
        refine jr_bipush (60) dX9_test_11 (by decide) ?_
        refine jc_Vi (c_isSign g _ hw1 _) lkX9_241 (hw1.k rfl) rfl rfl (by omega) (Nat.le_of_ble_eq_true rfl) dX9_test_13 (fun r_13 w_13 h_13 => ?_)
        obtain ⟨rfl, rfl⟩ := h_13
        rw [psg_e hR1]
        refine jr_if_ne 37 dX9_test_16 (by decide) (fun c_16 => ?_) (fun c_16 => ?_)
        · rw [jb_1] at c_16
          exact K
        · rw [jb_0] at c_16
          refine jr_aload_n dX9_test_19 rfl ?_
          refine jr_bipush (61) dX9_test_20 (by decide) ?_
          refine jc_Vi (c_isSign g _ hw1 _) lkX9_241 (hw1.k rfl) rfl rfl (by omega) (Nat.le_of_ble_eq_true rfl) dX9_test_22 (fun r_22 w_22 h_22 => ?_)
          obtain ⟨rfl, rfl⟩ := h_22
          rw [psg_e hR1]
          refine jr_if_ne 37 dX9_test_25 (by decide) (fun c_25 => ?_) (fun c_25 => ?_)
          · rw [jb_1] at c_25
            exact K
          · rw [jb_0] at c_25
            refine jr_aload_n dX9_test_28 rfl ?_
            refine jr_bipush (62) dX9_test_29 (by decide) ?_
            refine jc_Vi (c_isSign g _ hw1 _) lkX9_241 (hw1.k rfl) rfl rfl (by omega) (Nat.le_of_ble_eq_true rfl) dX9_test_31 (fun r_31 w_31 h_31 => ?_)
            obtain ⟨rfl, rfl⟩ := h_31
            rw [psg_e hR1]
            refine jr_if_eq 62 dX9_test_34 (by decide) (fun c_34 => ?_) (fun c_34 => ?_)
            · rw [jb_0] at c_34
              exfalso; exact (of_decide_eq_true ho).elim c_16 (fun h => h.elim c_25 c_34)
            · rw [jb_1] at c_34
              exact K
      · have eB : psTe T n a0 opCm F p = (true, (F p).2) := by
          rw [psTe, if_pos h0, if_neg ho]
        refine jr_aload_n dX9_test_10 rfl ?_
        refine jr_bipush (60) dX9_test_11 (by decide) ?_
        refine jc_Vi (c_isSign g _ hw1 _) lkX9_241 (hw1.k rfl) rfl rfl (by omega) (Nat.le_of_ble_eq_true rfl) dX9_test_13 (fun r_13 w_13 h_13 => ?_)
        obtain ⟨rfl, rfl⟩ := h_13
        rw [psg_e hR1]
        refine jr_if_ne 37 dX9_test_16 (by decide) (fun c_16 => ?_) (fun c_16 => ?_)
        · rw [jb_1] at c_16
          exfalso; exact ho (decide_eq_true (by first | exact Or.inl c_16 | exact Or.inr (Or.inl c_25) | exact Or.inr (Or.inr c_34)))
        · rw [jb_0] at c_16
          refine jr_aload_n dX9_test_19 rfl ?_
          refine jr_bipush (61) dX9_test_20 (by decide) ?_
          refine jc_Vi (c_isSign g _ hw1 _) lkX9_241 (hw1.k rfl) rfl rfl (by omega) (Nat.le_of_ble_eq_true rfl) dX9_test_22 (fun r_22 w_22 h_22 => ?_)
          obtain ⟨rfl, rfl⟩ := h_22
          rw [psg_e hR1]
          refine jr_if_ne 37 dX9_test_25 (by decide) (fun c_25 => ?_) (fun c_25 => ?_)
          · rw [jb_1] at c_25
            exfalso; exact ho (decide_eq_true (by first | exact Or.inl c_16 | exact Or.inr (Or.inl c_25) | exact Or.inr (Or.inr c_34)))
          · rw [jb_0] at c_25
            refine jr_aload_n dX9_test_28 rfl ?_
            refine jr_bipush (62) dX9_test_29 (by decide) ?_
            refine jc_Vi (c_isSign g _ hw1 _) lkX9_241 (hw1.k rfl) rfl rfl (by omega) (Nat.le_of_ble_eq_true rfl) dX9_test_31 (fun r_31 w_31 h_31 => ?_)
            obtain ⟨rfl, rfl⟩ := h_31
            rw [psg_e hR1]
            refine jr_if_eq 62 dX9_test_34 (by decide) (fun c_34 => ?_) (fun c_34 => ?_)
            · rw [jb_0] at c_34
              refine jr_iconst (1) dX9_test_62 (by decide) ?_
              refine jr_zret rfl (by decide) dX9_test_63 ?_
              exact hQ _ _ ⟨by rw [eB]; exact jb_t' rfl, by rw [eB]; exact hR1, hS⟩
            · rw [jb_1] at c_34
              exfalso; exact ho (decide_eq_true (by first | exact Or.inl c_16 | exact Or.inr (Or.inl c_25) | exact Or.inr (Or.inr c_34)))
    refine jr_aload_n dX9_test_0 rfl ?_
    refine jr_iload_n dX9_test_1 rfl ?_
    refine jc_Vi (hsub _ hw _ hp hf hR) lkX9_253 (hw.k rfl) rfl rfl (by omega) (Nat.le_of_ble_eq_true rfl) dX9_test_2 (fun r_2 w_2 h_2 => ?_)
    obtain ⟨rfl, hR2, hS2⟩ := h_2
    refine jr_if_ne 10 dX9_test_5 (by decide) (fun c_5 => ?_) (fun c_5 => absurd c_5 (jb_1.mpr h0))
    exact M _ hR2 hS2
  · have eB : psTe T n a0 opCm F p = (false, (F p).2) := by
      rw [psTe, if_neg h0]
    refine jr_aload_n dX9_test_0 rfl ?_
    refine jr_iload_n dX9_test_1 rfl ?_
    refine jc_Vi (hsub _ hw _ hp hf hR) lkX9_253 (hw.k rfl) rfl rfl (by omega) (Nat.le_of_ble_eq_true rfl) dX9_test_2 (fun r_2 w_2 h_2 => ?_)
    obtain ⟨rfl, hR2, hS2⟩ := h_2
    refine jr_if_ne 10 dX9_test_5 (by decide) (fun c_5 => absurd (jb_f h0) c_5) (fun c_5 => ?_)
    refine jr_iconst (0) dX9_test_8 (by decide) ?_
    refine jr_zret rfl (by decide) dX9_test_9 ?_
    exact hQ _ _ ⟨by rw [eB]; exact jb_f' Bool.false_ne_true, by rw [eB]; exact hR2, hS2⟩
theorem c_both (g : Cx) {T : Nat → Int32} {n B a0 key f d : Nat} {F : PS → Bool × PS} (hn : n ≤ 96) (hB : a0 + 2 * B ≤ 3040) (hd : 3 ≤ d) (hG : Go T n key a0 B F) (hsub : RdC g yX9_test cX9_test 3 T n B a0 key f d F) : RdC g yX9_both cX9_both 2 T n B a0 key f (d + 1) (psBi T n a0 opAn F) := by
  intro w hw p hp hf hR
  refine CI.of (own := RX9) (nm := "both") (lv := [some (.ref (gb g + 78)), some (.int (nI key))]) (by decide) rfl rfl (Nat.le_of_ble_eq_true rfl) rfl (fun Q hQ => ?_)
  have L : ∀ (m : Nat) (p1 : PS) (w1 : Wd), PI T n B p1 → 1 ≤ dpG p1.2.2.2.2.2 a0 p1.2.2.2.1 → n < m + p1.1.1 → 17 ≤ f + p1.2.1 + p1.2.2.1 → PsR w1 T n a0 p1 → ST w w1 → (∀ r w', r = jb ((psLp T n a0 opAn F m p1).1 = true) → PsR w' T n a0 (psLp T n a0 opAn F m p1).2 → ST w w' → Q (some (.int r)) w') → RR g RX9 cX9_both 2 (some .boolean) "both" (d + 1) 0 0 0 0 10 [some (.ref (gb g + 78)), some (.int (nI key))] [] w1 Q := by
    intro m
    induction m with
    | zero =>
      intro p1 w1 hp1 hd1 hm hf1 hR1 hS hK
      have := hp1.1.1
      have := hp1.1.2.1
      omega
    | succ m ih =>
      intro p1 w1 hp1 hd1 hm hf1 hR1 hS hK
      have hw1 := hS.wf hw
      by_cases ho : opAn p1 = true
      · obtain ⟨h3, hv⟩ := opAn_s p1 ho
        obtain ⟨hq, s1, s2, s3⟩ := Lp_one hG hp1 h3 hv hd1
        have htb := (hp1.1.2.2.1 (by rw [h3]; decide))
        have ev : p1.1.2.2.2.2 = 38 := (of_decide_eq_true ho).2
        have K : RR g RX9 cX9_both 2 (some .boolean) "both" (d + 1) 0 0 0 0 19 [some (.ref (gb g + 78)), some (.int (nI key))] [] w1 Q := by
          by_cases h1 : (F (psNx T n p1)).1 = true
          · obtain ⟨v2, hB2, v3, hP3, d3, t3⟩ := s3 h1
            have eL : psLp T n a0 opAn F (m + 1) p1 = psLp T n a0 opAn F m (psSt a0 2 p1.1.2.2.2.2 (F (psNx T n p1)).2) := by
              simp only [psLp]
              rw [if_pos ho, if_pos h1]
            rw [eL] at hK
            have hg := v3.2.1
            have hg1 := v3.1
            have hg2 := v2.2.1
            have hg3 := v2.1
            have hdd := v3.2.2.2.2
            have hx : (psSt a0 2 p1.1.2.2.2.2 (F (psNx T n p1)).2).1.1 = (F (psNx T n p1)).2.1.1 := rfl
            refine jr_aload_n dX9_both_19 rfl ?_
            refine jc_Vv (c_nextToken g _ hw1 T hR1.1 n hn hR1.2.1 _ hR1.2.2.1 hp1.1.1) lkX9_244 (hw1.k rfl) rfl rfl (by omega) (Nat.le_of_ble_eq_true rfl) dX9_both_20 (fun w_20 h_20 => ?_)
            obtain ⟨f2, rfl, t1, t2⟩ := h_20
            refine jr_aload_n dX9_both_23 rfl ?_
            refine jr_iload_n dX9_both_24 rfl ?_
            refine jc_Vi (hsub _ (hw1.sR _ _) _ hq (by exact hf1) (hR1.nx t1 t2)) lkX9_250 (hw1.k rfl) rfl rfl (by omega) (Nat.le_of_ble_eq_true rfl) dX9_both_25 (fun r_25 w_25 h_25 => ?_)
            obtain ⟨rfl, hR2, hS2⟩ := h_25
            refine jr_if_ne 33 dX9_both_28 (by decide) (fun c_28 => ?_) (fun c_28 => absurd c_28 (jb_1.mpr h1))
            refine jr_aload_n dX9_both_33 rfl ?_
            refine jr_iconst (2) dX9_both_34 (by decide) ?_
            refine jr_bipush (38) dX9_both_35 (by decide) ?_
            refine jc_Vv (c_step g _ (hS2.wf (hw1.sR _ _)) a0 _ hR2.2.2.2.2.2.2.1 hR2.2.2.2.2.2.1 (by omega) _ _) lkX9_247 ((hS2.wf (hw1.sR _ _)).k rfl) rfl rfl (by omega) (Nat.le_of_ble_eq_true rfl) dX9_both_37 (fun w_37 h_37 => ?_)
            obtain rfl := h_37
            refine jr_goto 10 dX9_both_40 (by decide) ?_
            rw [← ev]; exact ih _ _ hP3 (by omega) (by rw [hx]; omega) (by show 17 ≤ f + (F (psNx T n p1)).2.2.1 + (F (psNx T n p1)).2.2.2.1; rw [d3, t3]; exact hf1) (hR2.st 2 _) (((hS.tr (ST.nx t2)).tr hS2).tr ST.st) hK
          · have eL : psLp T n a0 opAn F (m + 1) p1 = (false, (F (psNx T n p1)).2) := by
              simp only [psLp]
              rw [if_pos ho, if_neg h1]
            rw [eL] at hK
            refine jr_aload_n dX9_both_19 rfl ?_
            refine jc_Vv (c_nextToken g _ hw1 T hR1.1 n hn hR1.2.1 _ hR1.2.2.1 hp1.1.1) lkX9_244 (hw1.k rfl) rfl rfl (by omega) (Nat.le_of_ble_eq_true rfl) dX9_both_20 (fun w_20 h_20 => ?_)
            obtain ⟨f2, rfl, t1, t2⟩ := h_20
            refine jr_aload_n dX9_both_23 rfl ?_
            refine jr_iload_n dX9_both_24 rfl ?_
            refine jc_Vi (hsub _ (hw1.sR _ _) _ hq (by exact hf1) (hR1.nx t1 t2)) lkX9_250 (hw1.k rfl) rfl rfl (by omega) (Nat.le_of_ble_eq_true rfl) dX9_both_25 (fun r_25 w_25 h_25 => ?_)
            obtain ⟨rfl, hR2, hS2⟩ := h_25
            refine jr_if_ne 33 dX9_both_28 (by decide) (fun c_28 => absurd (jb_f h1) c_28) (fun c_28 => ?_)
            refine jr_iconst (0) dX9_both_31 (by decide) ?_
            refine jr_zret rfl (by decide) dX9_both_32 ?_
            exact hK _ _ (jb_f' Bool.false_ne_true) hR2 ((hS.tr (ST.nx t2)).tr hS2)
        refine jr_aload_n dX9_both_10 rfl ?_
        refine jr_bipush (38) dX9_both_11 (by decide) ?_
        refine jc_Vi (c_isSign g _ hw1 _) lkX9_241 (hw1.k rfl) rfl rfl (by omega) (Nat.le_of_ble_eq_true rfl) dX9_both_13 (fun r_13 w_13 h_13 => ?_)
        obtain ⟨rfl, rfl⟩ := h_13
        rw [psg_e hR1]
        refine jr_if_eq 43 dX9_both_16 (by decide) (fun c_16 => ?_) (fun c_16 => ?_)
        · rw [jb_0] at c_16
          exfalso; exact c_16 (of_decide_eq_true ho)
        · rw [jb_1] at c_16
          exact K
      · have eL : psLp T n a0 opAn F (m + 1) p1 = (true, p1) := by
          simp only [psLp]
          rw [if_neg ho]
        rw [eL] at hK
        refine jr_aload_n dX9_both_10 rfl ?_
        refine jr_bipush (38) dX9_both_11 (by decide) ?_
        refine jc_Vi (c_isSign g _ hw1 _) lkX9_241 (hw1.k rfl) rfl rfl (by omega) (Nat.le_of_ble_eq_true rfl) dX9_both_13 (fun r_13 w_13 h_13 => ?_)
        obtain ⟨rfl, rfl⟩ := h_13
        rw [psg_e hR1]
        refine jr_if_eq 43 dX9_both_16 (by decide) (fun c_16 => ?_) (fun c_16 => ?_)
        · rw [jb_0] at c_16
          refine jr_iconst (1) dX9_both_43 (by decide) ?_
          refine jr_zret rfl (by decide) dX9_both_44 ?_
          exact hK _ _ (jb_t' rfl) hR1 hS
        · rw [jb_1] at c_16
          exfalso; exact ho (decide_eq_true c_16)
  obtain ⟨g1, g2, g3⟩ := hG p hp
  by_cases h1 : (F p).1 = true
  · obtain ⟨w3, d3, t3⟩ := g3 h1
    have hq : PI T n B (F p).2 := hp.to w3 (by omega) g1 (by rw [d3]; exact hp.2.1) (by rw [t3]; exact hp.2.2.1)
    have hdd := w3.2.2.2.2
    have eB : psBi T n a0 opAn F p = psLp T n a0 opAn F 97 (F p).2 := by
      rw [psBi, if_pos h1]
    refine jr_aload_n dX9_both_0 rfl ?_
    refine jr_iload_n dX9_both_1 rfl ?_
    refine jc_Vi (hsub _ hw _ hp hf hR) lkX9_250 (hw.k rfl) rfl rfl (by omega) (Nat.le_of_ble_eq_true rfl) dX9_both_2 (fun r_2 w_2 h_2 => ?_)
    obtain ⟨rfl, hR2, hS2⟩ := h_2
    refine jr_if_ne 10 dX9_both_5 (by decide) (fun c_5 => ?_) (fun c_5 => absurd c_5 (jb_1.mpr h1))
    exact L 97 _ _ hq (by omega) (by omega) (by rw [d3, t3]; exact hf) hR2 hS2 (fun r w' e1 e2 e3 => hQ _ _ ⟨by rw [eB]; exact e1, by rw [eB]; exact e2, e3⟩)
  · have eB : psBi T n a0 opAn F p = (false, (F p).2) := by
      rw [psBi, if_neg h1]
    refine jr_aload_n dX9_both_0 rfl ?_
    refine jr_iload_n dX9_both_1 rfl ?_
    refine jc_Vi (hsub _ hw _ hp hf hR) lkX9_250 (hw.k rfl) rfl rfl (by omega) (Nat.le_of_ble_eq_true rfl) dX9_both_2 (fun r_2 w_2 h_2 => ?_)
    obtain ⟨rfl, hR2, hS2⟩ := h_2
    refine jr_if_ne 10 dX9_both_5 (by decide) (fun c_5 => absurd (jb_f h1) c_5) (fun c_5 => ?_)
    refine jr_iconst (0) dX9_both_8 (by decide) ?_
    refine jr_zret rfl (by decide) dX9_both_9 ?_
    exact hQ _ _ ⟨by rw [eB]; exact jb_f' Bool.false_ne_true, by rw [eB]; exact hR2, hS2⟩
theorem c_either (g : Cx) {T : Nat → Int32} {n B a0 key f d : Nat} {F : PS → Bool × PS} (hn : n ≤ 96) (hB : a0 + 2 * B ≤ 3040) (hd : 3 ≤ d) (hG : Go T n key a0 B F) (hsub : RdC g yX9_both cX9_both 2 T n B a0 key f d F) : RdC g yX9_either cX9_either 2 T n B a0 key f (d + 1) (psBi T n a0 opOr F) := by
  intro w hw p hp hf hR
  refine CI.of (own := RX9) (nm := "either") (lv := [some (.ref (gb g + 78)), some (.int (nI key))]) (by decide) rfl rfl (Nat.le_of_ble_eq_true rfl) rfl (fun Q hQ => ?_)
  have L : ∀ (m : Nat) (p1 : PS) (w1 : Wd), PI T n B p1 → 1 ≤ dpG p1.2.2.2.2.2 a0 p1.2.2.2.1 → n < m + p1.1.1 → 17 ≤ f + p1.2.1 + p1.2.2.1 → PsR w1 T n a0 p1 → ST w w1 → (∀ r w', r = jb ((psLp T n a0 opOr F m p1).1 = true) → PsR w' T n a0 (psLp T n a0 opOr F m p1).2 → ST w w' → Q (some (.int r)) w') → RR g RX9 cX9_either 2 (some .boolean) "either" (d + 1) 0 0 0 0 10 [some (.ref (gb g + 78)), some (.int (nI key))] [] w1 Q := by
    intro m
    induction m with
    | zero =>
      intro p1 w1 hp1 hd1 hm hf1 hR1 hS hK
      have := hp1.1.1
      have := hp1.1.2.1
      omega
    | succ m ih =>
      intro p1 w1 hp1 hd1 hm hf1 hR1 hS hK
      have hw1 := hS.wf hw
      by_cases ho : opOr p1 = true
      · obtain ⟨h3, hv⟩ := opOr_s p1 ho
        obtain ⟨hq, s1, s2, s3⟩ := Lp_one hG hp1 h3 hv hd1
        have htb := (hp1.1.2.2.1 (by rw [h3]; decide))
        have ev : p1.1.2.2.2.2 = 124 := (of_decide_eq_true ho).2
        have K : RR g RX9 cX9_either 2 (some .boolean) "either" (d + 1) 0 0 0 0 19 [some (.ref (gb g + 78)), some (.int (nI key))] [] w1 Q := by
          by_cases h1 : (F (psNx T n p1)).1 = true
          · obtain ⟨v2, hB2, v3, hP3, d3, t3⟩ := s3 h1
            have eL : psLp T n a0 opOr F (m + 1) p1 = psLp T n a0 opOr F m (psSt a0 2 p1.1.2.2.2.2 (F (psNx T n p1)).2) := by
              simp only [psLp]
              rw [if_pos ho, if_pos h1]
            rw [eL] at hK
            have hg := v3.2.1
            have hg1 := v3.1
            have hg2 := v2.2.1
            have hg3 := v2.1
            have hdd := v3.2.2.2.2
            have hx : (psSt a0 2 p1.1.2.2.2.2 (F (psNx T n p1)).2).1.1 = (F (psNx T n p1)).2.1.1 := rfl
            refine jr_aload_n dX9_either_19 rfl ?_
            refine jc_Vv (c_nextToken g _ hw1 T hR1.1 n hn hR1.2.1 _ hR1.2.2.1 hp1.1.1) lkX9_244 (hw1.k rfl) rfl rfl (by omega) (Nat.le_of_ble_eq_true rfl) dX9_either_20 (fun w_20 h_20 => ?_)
            obtain ⟨f2, rfl, t1, t2⟩ := h_20
            refine jr_aload_n dX9_either_23 rfl ?_
            refine jr_iload_n dX9_either_24 rfl ?_
            refine jc_Vi (hsub _ (hw1.sR _ _) _ hq (by exact hf1) (hR1.nx t1 t2)) lkX9_238 (hw1.k rfl) rfl rfl (by omega) (Nat.le_of_ble_eq_true rfl) dX9_either_25 (fun r_25 w_25 h_25 => ?_)
            obtain ⟨rfl, hR2, hS2⟩ := h_25
            refine jr_if_ne 33 dX9_either_28 (by decide) (fun c_28 => ?_) (fun c_28 => absurd c_28 (jb_1.mpr h1))
            refine jr_aload_n dX9_either_33 rfl ?_
            refine jr_iconst (2) dX9_either_34 (by decide) ?_
            refine jr_bipush (124) dX9_either_35 (by decide) ?_
            refine jc_Vv (c_step g _ (hS2.wf (hw1.sR _ _)) a0 _ hR2.2.2.2.2.2.2.1 hR2.2.2.2.2.2.1 (by omega) _ _) lkX9_247 ((hS2.wf (hw1.sR _ _)).k rfl) rfl rfl (by omega) (Nat.le_of_ble_eq_true rfl) dX9_either_37 (fun w_37 h_37 => ?_)
            obtain rfl := h_37
            refine jr_goto 10 dX9_either_40 (by decide) ?_
            rw [← ev]; exact ih _ _ hP3 (by omega) (by rw [hx]; omega) (by show 17 ≤ f + (F (psNx T n p1)).2.2.1 + (F (psNx T n p1)).2.2.2.1; rw [d3, t3]; exact hf1) (hR2.st 2 _) (((hS.tr (ST.nx t2)).tr hS2).tr ST.st) hK
          · have eL : psLp T n a0 opOr F (m + 1) p1 = (false, (F (psNx T n p1)).2) := by
              simp only [psLp]
              rw [if_pos ho, if_neg h1]
            rw [eL] at hK
            refine jr_aload_n dX9_either_19 rfl ?_
            refine jc_Vv (c_nextToken g _ hw1 T hR1.1 n hn hR1.2.1 _ hR1.2.2.1 hp1.1.1) lkX9_244 (hw1.k rfl) rfl rfl (by omega) (Nat.le_of_ble_eq_true rfl) dX9_either_20 (fun w_20 h_20 => ?_)
            obtain ⟨f2, rfl, t1, t2⟩ := h_20
            refine jr_aload_n dX9_either_23 rfl ?_
            refine jr_iload_n dX9_either_24 rfl ?_
            refine jc_Vi (hsub _ (hw1.sR _ _) _ hq (by exact hf1) (hR1.nx t1 t2)) lkX9_238 (hw1.k rfl) rfl rfl (by omega) (Nat.le_of_ble_eq_true rfl) dX9_either_25 (fun r_25 w_25 h_25 => ?_)
            obtain ⟨rfl, hR2, hS2⟩ := h_25
            refine jr_if_ne 33 dX9_either_28 (by decide) (fun c_28 => absurd (jb_f h1) c_28) (fun c_28 => ?_)
            refine jr_iconst (0) dX9_either_31 (by decide) ?_
            refine jr_zret rfl (by decide) dX9_either_32 ?_
            exact hK _ _ (jb_f' Bool.false_ne_true) hR2 ((hS.tr (ST.nx t2)).tr hS2)
        refine jr_aload_n dX9_either_10 rfl ?_
        refine jr_bipush (124) dX9_either_11 (by decide) ?_
        refine jc_Vi (c_isSign g _ hw1 _) lkX9_241 (hw1.k rfl) rfl rfl (by omega) (Nat.le_of_ble_eq_true rfl) dX9_either_13 (fun r_13 w_13 h_13 => ?_)
        obtain ⟨rfl, rfl⟩ := h_13
        rw [psg_e hR1]
        refine jr_if_eq 43 dX9_either_16 (by decide) (fun c_16 => ?_) (fun c_16 => ?_)
        · rw [jb_0] at c_16
          exfalso; exact c_16 (of_decide_eq_true ho)
        · rw [jb_1] at c_16
          exact K
      · have eL : psLp T n a0 opOr F (m + 1) p1 = (true, p1) := by
          simp only [psLp]
          rw [if_neg ho]
        rw [eL] at hK
        refine jr_aload_n dX9_either_10 rfl ?_
        refine jr_bipush (124) dX9_either_11 (by decide) ?_
        refine jc_Vi (c_isSign g _ hw1 _) lkX9_241 (hw1.k rfl) rfl rfl (by omega) (Nat.le_of_ble_eq_true rfl) dX9_either_13 (fun r_13 w_13 h_13 => ?_)
        obtain ⟨rfl, rfl⟩ := h_13
        rw [psg_e hR1]
        refine jr_if_eq 43 dX9_either_16 (by decide) (fun c_16 => ?_) (fun c_16 => ?_)
        · rw [jb_0] at c_16
          refine jr_iconst (1) dX9_either_43 (by decide) ?_
          refine jr_zret rfl (by decide) dX9_either_44 ?_
          exact hK _ _ (jb_t' rfl) hR1 hS
        · rw [jb_1] at c_16
          exfalso; exact ho (decide_eq_true c_16)
  obtain ⟨g1, g2, g3⟩ := hG p hp
  by_cases h1 : (F p).1 = true
  · obtain ⟨w3, d3, t3⟩ := g3 h1
    have hq : PI T n B (F p).2 := hp.to w3 (by omega) g1 (by rw [d3]; exact hp.2.1) (by rw [t3]; exact hp.2.2.1)
    have hdd := w3.2.2.2.2
    have eB : psBi T n a0 opOr F p = psLp T n a0 opOr F 97 (F p).2 := by
      rw [psBi, if_pos h1]
    refine jr_aload_n dX9_either_0 rfl ?_
    refine jr_iload_n dX9_either_1 rfl ?_
    refine jc_Vi (hsub _ hw _ hp hf hR) lkX9_238 (hw.k rfl) rfl rfl (by omega) (Nat.le_of_ble_eq_true rfl) dX9_either_2 (fun r_2 w_2 h_2 => ?_)
    obtain ⟨rfl, hR2, hS2⟩ := h_2
    refine jr_if_ne 10 dX9_either_5 (by decide) (fun c_5 => ?_) (fun c_5 => absurd c_5 (jb_1.mpr h1))
    exact L 97 _ _ hq (by omega) (by omega) (by rw [d3, t3]; exact hf) hR2 hS2 (fun r w' e1 e2 e3 => hQ _ _ ⟨by rw [eB]; exact e1, by rw [eB]; exact e2, e3⟩)
  · have eB : psBi T n a0 opOr F p = (false, (F p).2) := by
      rw [psBi, if_neg h1]
    refine jr_aload_n dX9_either_0 rfl ?_
    refine jr_iload_n dX9_either_1 rfl ?_
    refine jc_Vi (hsub _ hw _ hp hf hR) lkX9_238 (hw.k rfl) rfl rfl (by omega) (Nat.le_of_ble_eq_true rfl) dX9_either_2 (fun r_2 w_2 h_2 => ?_)
    obtain ⟨rfl, hR2, hS2⟩ := h_2
    refine jr_if_ne 10 dX9_either_5 (by decide) (fun c_5 => absurd (jb_f h1) c_5) (fun c_5 => ?_)
    refine jr_iconst (0) dX9_either_8 (by decide) ?_
    refine jr_zret rfl (by decide) dX9_either_9 ?_
    exact hQ _ _ ⟨by rw [eB]; exact jb_f' Bool.false_ne_true, by rw [eB]; exact hR2, hS2⟩
