-- the class: lots, minutes, what time it may be
def scY : Nat → Prop := fun i => scK i ∨ (34 ≤ i ∧ i ≤ 42)
theorem NR.y {w w' : Wd} {a : Nat} {s : Nat → Int32} (h : NR w a s) (ha : NA a) (hS : Sm scY w w') : NR w' a s :=
  h.sm hS (fun i hi e => by
    have := ha.le
    unfold scY scK at e
    omega)
theorem CN.y {w w' : Wd} {s : Nat → Int32} (h : NR w 1 s) (hS : Sm scY w w') : CN w w' s := ⟨h.y NA1 hS, hS.mono (fun i q => by unfold scY scK at q; unfold scX scK; omega)⟩
theorem yk {w w' : Wd} (h : Sm scK w w') : Sm scY w w' := h.mono (fun _ q => Or.inl q)
theorem yq {w w' : Wd} (h : Sm scQ w w') : Sm scY w w' := h.mono (fun i q => by unfold scQ scK at q; unfold scY scK; omega)
theorem yu {w w' : Wd} (h : Sm scU w w') : Sm scY w w' := h.mono (fun i q => by unfold scU at q; unfold scY; omega)
theorem y34 {w w' : Wd} (h : Sm (fun i => i = 34) w w') : Sm scY w w' := h.mono (fun i q => by unfold scY; omega)
theorem yv {w w' : Wd} (h : Sm scV w w') : Sm scY w w' := h.mono (fun i q => by unfold scV at q; unfold scY; omega)
theorem tot_96 {s : Nat → Int32} (hG : Gd s) (t : Nat) : totT s t ≤ 96 := by
  have h1 := tot_le s t (sN s 0)
  have h2 := hG.1.2
  unfold totT
  omega
theorem comes_X {s : Nat → Int32} {n : Nat} (hn : n < 6) (kd o tn : Int32) : SameX s (comesF s n kd o tn) :=
  ⟨by rw [comesF, pk_un (by omega), pk_un (by omega), pk_un (by omega), pk_un (by omega)], fun t _ j h1 h2 => by rw [comesF, pk_un (by omega), pk_un (by omega), pk_un (by omega), pk_un (by omega)]⟩
theorem SameX.tr {s s' s'' : Nat → Int32} (h1 : SameX s s') (h2 : SameX s' s'') : SameX s s'' := ⟨h2.1.trans h1.1, fun t ht j h3 h4 => (h2.2 t (by rw [sN_congr h1.1]; exact ht) j h3 h4).trans (h1.2 t ht j h3 h4)⟩
theorem SameX.okAll {s s' : Nat → Int32} (h : SameX s s') (hX : ∀ t, t < sN s 1 → TxOk s t) : ∀ t, t < sN s' 1 → TxOk s' t := fun t ht => by
  rw [sN_congr h.1] at ht
  exact (h.2 t ht).ok (hX t ht)
theorem p_deal (g : Cx) (w : Wd) (hw : Wf w) (s : Nat → Int32) (hG : Gd s) (hN : NR w 1 s) (n : Int32) : CI g yX8_deal cX8_deal 7 (some .int) 2 0 0 [.ref (gb g + 0), .int n] w (fun r w' => r = (F_deal s n).1 ∧ CN w w' (F_deal s n).2) := by
  obtain ⟨h0, -, hmi, -, -, -, hC, -, hX⟩ := id hG
  have h6 := h0.2
  refine CI.of (own := RX8) (nm := "deal") (lv := [some (.ref (gb g + 0)), some (.int n), none, none, none, none, none]) (by decide) rfl rfl (Nat.le_of_ble_eq_true rfl) rfl (fun Q hQ => ?_)
  by_cases hc : inR n 1 6
  · have hnr : 1 ≤ n.toInt ∧ n.toInt ≤ 6 := hc
    obtain ⟨n0, hn0, en⟩ := i_of (n := 7) (x := n) (by omega) (by omega)
    subst en
    have en0 : (nI n0).toInt = (n0 : Int) := i_nI (by omega)
    have enc : (nI n0).toNatClampNeg = n0 := nI_clamp (by omega)
    obtain ⟨m, em⟩ : ∃ m, m = min n0 (6 - sN s 0) := ⟨_, rfl⟩
    have e6 : (nI (6 - sN s 0)).toInt = ((6 - sN s 0 : Nat) : Int) := i_nI (by omega)
    have hmin : (if (nI (6 - sN s 0)).toInt < (nI n0).toInt then nI (6 - sN s 0) else nI n0) = nI m := by
      by_cases c : (nI (6 - sN s 0)).toInt < (nI n0).toInt
      · rw [if_pos c]; congr 1; omega
      · rw [if_neg c]; congr 1; omega
    have eF : F_deal s (nI n0) = (nI m, dlR s m) := by rw [F_deal, if_pos hc, enc, ← em]
    rw [eF] at hQ
    have L : ∀ (f i : Nat) (w1 : Wd) (a4 a5 a6 : Option Value), jc1 a4 = true → jc1 a5 = true → f + i = m → NR w1 1 (dlR s i) → (∀ t, t < sN (dlR s i) 1 → TxOk (dlR s i) t) → Sm scX w w1 → RR g RX8 cX8_deal 7 (some .int) "deal" 2 0 0 0 0 31 [some (.ref (gb g + 0)), some (.int (nI n0)), some (.int (nI m)), some (.int (nI i)), a4, a5, a6] [] w1 Q := by
      intro f
      induction f with
      | zero =>
        intro i w1 a4 a5 a6 j4 j5 hi hN1 hX1 hS
        have e : i = m := by omega
        subst e
        refine jr_iload_n dX8_deal_31 rfl ?_
        refine jr_iload_n dX8_deal_32 rfl ?_
        refine jr_icmp_ge 91 dX8_deal_33 (by decide) (fun c_33 => ?_) (fun c_33 => absurd (Int32.le_refl _) c_33)
        refine jr_iload_n dX8_deal_91 rfl ?_
        refine jr_iret rfl dX8_deal_92 ?_
        exact hQ _ _ ⟨rfl, hN1, hS⟩
      | succ f ih =>
        intro i w1 a4 a5 a6 j4 j5 hi hN1 hX1 hS
        have hw1 := hS.wf hw
        have e0 := dlR_0 h0.1 i (by omega)
        have esN : sN (dlR s i) 0 = sN s 0 + i := sN_of e0 (by omega)
        obtain ⟨s1, es1⟩ : ∃ s1, s1 = dlR s i := ⟨_, rfl⟩
        rw [← es1] at hN1 hX1 e0 esN
        have z1 := hN1.fld NA1 hX1 (p := 8) (q := 9) (Or.inr (Or.inr ⟨rfl, rfl⟩)) (drawZ (s1 9))
        have x1 := SameX_u (s := s1) (j := 9) (v := drawZ (s1 9)) (by decide) (by decide)
        have z2 := z1.fld NA1 (x1.okAll hX1) (p := 8) (q := 9) (Or.inr (Or.inr ⟨rfl, rfl⟩)) (drawZ (drawZ (s1 9)))
        have x2 := x1.tr (SameX_u (j := 9) (v := drawZ (drawZ (s1 9))) (by decide) (by decide))
        have z3 := z2.fld NA1 (x2.okAll hX1) (p := 8) (q := 9) (Or.inr (Or.inr ⟨rfl, rfl⟩)) (drawZ (drawZ (drawZ (s1 9))))
        have x3 := x2.tr (SameX_u (j := 9) (v := drawZ (drawZ (drawZ (s1 9)))) (by decide) (by decide))
        have n8 : wI w1 1 8 = s1 9 := hN1.1.2.2.2.2.2.2.2.1
        have e03 : upd (upd (upd s1 9 (drawZ (s1 9))) 9 (drawZ (drawZ (s1 9)))) 9 (drawZ (drawZ (drawZ (s1 9)))) 0 = nI (sN s1 0) := by rw [pk_un (by decide), pk_un (by decide), pk_un (by decide), esN]; exact e0
        have hlt : sN s1 0 < 6 := by omega
        have hS3 : Sm scX w (sR (sR (sR w1 1 (upd (wI w1 1) 8 (drawZ (s1 9)))) 1 (upd (wI (sR w1 1 (upd (wI w1 1) 8 (drawZ (s1 9)))) 1) 8 (drawZ (drawZ (s1 9))))) 1 (upd (wI (sR (sR w1 1 (upd (wI w1 1) 8 (drawZ (s1 9)))) 1 (upd (wI (sR w1 1 (upd (wI w1 1) 8 (drawZ (s1 9)))) 1) 8 (drawZ (drawZ (s1 9))))) 1) 8 (drawZ (drawZ (drawZ (s1 9)))))) := ((hS.tr (Sm.sR (by unfold scX; omega))).tr (Sm.sR (by unfold scX; omega))).tr (Sm.sR (by unfold scX; omega))
        have hadd := fun kd o tn => c_addClock g _ ((hw1.sR _ _).sR _ _ |>.sR _ _) 1 NA1 _ (x3.okAll hX1) z3 (sN s1 0) hlt e03 kd o tn
        refine jr_iload_n dX8_deal_31 rfl ?_
        refine jr_iload_n dX8_deal_32 rfl ?_
        refine jr_icmp_ge 91 dX8_deal_33 (by decide) (fun c_33 => absurd c_33 (nI_ge (by omega) (by omega))) (fun c_33 => ?_)
        refine jr_aload_n dX8_deal_36 rfl ?_
        refine gfX8_12 1 dX8_deal_37 (hw1.k rfl) (hw1.f rfl) ?_
        refine jc_Vi (c_draw g _ hw1 1 NA1) lkX8_143 (hw1.k rfl) rfl rfl (Nat.le_of_ble_eq_true rfl) (Nat.le_of_ble_eq_true rfl) dX8_deal_40 (fun r_40 w_40 h_40 => ?_)
        obtain ⟨rfl, rfl⟩ := h_40
        rw [n8]
        refine jr_bipush (6) dX8_deal_43 (by decide) ?_
        refine jr_irem dX8_deal_45 (by decide) ?_
        refine jr_istore_4 dX8_deal_46 (by decide) rfl ?_
        refine jr_aload_n dX8_deal_48 rfl ?_
        refine gfX8_12 1 dX8_deal_49 (hw1.k rfl) (hw1.f rfl) ?_
        refine jc_Vi (c_draw g _ (hw1.sR _ _) 1 NA1) lkX8_143 (hw1.k rfl) rfl rfl (Nat.le_of_ble_eq_true rfl) (Nat.le_of_ble_eq_true rfl) dX8_deal_52 (fun r_52 w_52 h_52 => ?_)
        obtain ⟨rfl, rfl⟩ := h_52
        rw [show wI (sR w1 1 (upd (wI w1 1) 8 (drawZ (s1 9)))) 1 8 = drawZ (s1 9) by rw [wI_sR_s, pk_us]]
        refine jr_bipush (10) dX8_deal_55 (by decide) ?_
        refine jr_irem dX8_deal_57 (by decide) ?_
        refine jr_istore_5 dX8_deal_58 (by decide) rfl ?_
        refine jr_aload_n dX8_deal_60 rfl ?_
        refine gfX8_12 1 dX8_deal_61 (hw1.k rfl) (hw1.f rfl) ?_
        refine jc_Vi (c_draw g _ ((hw1.sR _ _).sR _ _) 1 NA1) lkX8_143 (hw1.k rfl) rfl rfl (Nat.le_of_ble_eq_true rfl) (Nat.le_of_ble_eq_true rfl) dX8_deal_64 (fun r_64 w_64 h_64 => ?_)
        obtain ⟨rfl, rfl⟩ := h_64
        rw [show wI (sR (sR w1 1 (upd (wI w1 1) 8 (drawZ (s1 9)))) 1 (upd (wI (sR w1 1 (upd (wI w1 1) 8 (drawZ (s1 9)))) 1) 8 (drawZ (drawZ (s1 9))))) 1 8 = drawZ (drawZ (s1 9)) by rw [wI_sR_s, pk_us]]
        refine jr_bipush (10) dX8_deal_67 (by decide) ?_
        refine jr_irem dX8_deal_69 (by decide) ?_
        refine jr_istore_6 dX8_deal_70 (by decide) rfl ?_
        refine jr_aload_n dX8_deal_72 rfl ?_
        refine gfX8_12 1 dX8_deal_73 (hw1.k rfl) (hw1.f rfl) ?_
        refine jr_iload dX8_deal_76 rfl ?_
        refine jr_iload dX8_deal_78 rfl ?_
        refine jr_iload dX8_deal_80 rfl ?_
        refine jc_Vv (hadd _ _ _) lkX8_85 (hw1.k rfl) rfl rfl (Nat.le_of_ble_eq_true rfl) (Nat.le_of_ble_eq_true rfl) dX8_deal_82 (fun w_82 h_82 => ?_)
        obtain ⟨hN2, hS2⟩ := h_82
        refine jr_iinc_3 (nI (i + 1)) dX8_deal_85 (inc1 i) (by decide) rfl ?_
        refine jr_goto 31 dX8_deal_88 (by decide) ?_
        have h9 := ih (i + 1) w_82 (some (.int (rmI (drawV (s1 9)) 6))) (some (.int (rmI (drawV (drawZ (s1 9))) 10))) (some (.int (rmI (drawV (drawZ (drawZ (s1 9)))) 10))) rfl rfl (by omega)
        have eD : dlR s (i + 1) = dl1 s1 := by rw [es1]; rfl
        rw [eD] at h9
        exact h9 hN2 ((x3.tr (comes_X hlt _ _ _)).okAll hX1) (hS3.tr (hS2.mono (fun i q => by unfold scA1 at q; unfold scX; omega)))
    refine jr_iload_n dX8_deal_0 rfl ?_
    refine jr_iconst (1) dX8_deal_1 (by decide) ?_
    refine jr_icmp_lt 11 dX8_deal_2 (by decide) (fun c_2 => absurd c_2 (by rw [jlit 1]; exact nI_nlt (by omega) (by omega))) (fun c_2 => ?_)
    refine jr_iload_n dX8_deal_5 rfl ?_
    refine jr_bipush (6) dX8_deal_6 (by decide) ?_
    refine jr_icmp_le 14 dX8_deal_8 (by decide) (fun c_8 => ?_) (fun c_8 => absurd (by rw [jlit 6]; exact nI_le (by omega) (by decide)) c_8)
    refine jr_iload_n dX8_deal_14 rfl ?_
    refine jr_bipush (6) dX8_deal_15 (by decide) ?_
    refine jr_aload_n dX8_deal_17 rfl ?_
    refine gfX8_12 1 dX8_deal_18 (hw.k rfl) (hw.f rfl) ?_
    refine gfX8_81 dX8_deal_21 (hw.k rfl) ?_
    rw [hN.1.1, h0.1]
    refine jr_isub dX8_deal_24 ?_
    rw [jlit 6, pk_sub h6]
    refine jc_Si (c_min g _ _ _) lkX8_137 rfl rfl (Nat.le_of_ble_eq_true rfl) (Nat.le_of_ble_eq_true rfl) dX8_deal_25 (fun r_25 w_25 h_25 => ?_)
    obtain ⟨rfl, rfl⟩ := h_25
    rw [hmin]
    refine jr_istore_2 dX8_deal_28 (by decide) rfl ?_
    refine jr_iconst (0) dX8_deal_29 (by decide) ?_
    refine jr_istore_3 dX8_deal_30 (by decide) rfl ?_
    exact L m 0 w _ _ _ rfl rfl rfl hN hX Sm.rf
  · refine jr_iload_n dX8_deal_0 rfl ?_
    refine jr_iconst (1) dX8_deal_1 (by decide) ?_
    refine jr_icmp_lt 11 dX8_deal_2 (by decide) (fun c_2 => ?_) (fun c_2 => ?_)
    · simp only [lt_i, le_i, eq_i, Int32.reduceToInt] at c_2
      refine jr_ldc (-1000000001) ckX8_80 dX8_deal_11 ?_
      refine jr_iret rfl dX8_deal_13 ?_
      exact hQ _ _ ⟨by rw [F_deal, if_neg hc], by rw [F_deal, if_neg hc]; exact CN.rf hN⟩
    · simp only [lt_i, le_i, eq_i, Int32.reduceToInt] at c_2
      refine jr_iload_n dX8_deal_5 rfl ?_
      refine jr_bipush (6) dX8_deal_6 (by decide) ?_
      refine jr_icmp_le 14 dX8_deal_8 (by decide) (fun c_8 => ?_) (fun c_8 => ?_)
      · simp only [lt_i, le_i, eq_i, Int32.reduceToInt] at c_8
        exfalso; exact hc (by unfold inR; omega)
      · simp only [lt_i, le_i, eq_i, Int32.reduceToInt] at c_8
        refine jr_ldc (-1000000001) ckX8_80 dX8_deal_11 ?_
        refine jr_iret rfl dX8_deal_13 ?_
        exact hQ _ _ ⟨by rw [F_deal, if_neg hc], by rw [F_deal, if_neg hc]; exact CN.rf hN⟩
theorem p_minutes (g : Cx) (w : Wd) (hw : Wf w) (s : Nat → Int32) (hG : Gd s) (h99 : sN s 2 ≤ 9999) (hN : NR w 1 s) (n : Int32) : CI g yX8_minutes cX8_minutes 3 (some .int) 7 0 0 [.ref (gb g + 0), .int n] w (fun r w' => r = (F_minutes s n).1 ∧ CN w w' (F_minutes s n).2) := by
  obtain ⟨h0, -, hmi, -, -, -, hC, -, hX⟩ := id hG
  refine CI.of (own := RX8) (nm := "minutes") (lv := [some (.ref (gb g + 0)), some (.int n), none]) (by decide) rfl rfl (Nat.le_of_ble_eq_true rfl) rfl (fun Q hQ => ?_)
  by_cases hc : inR n 1 100
  · have hnr : 1 ≤ n.toInt ∧ n.toInt ≤ 100 := hc
    obtain ⟨n0, hn0, en⟩ := i_of (n := 101) (x := n) (by omega) (by omega)
    subst en
    have en0 : (nI n0).toInt = (n0 : Int) := i_nI (by omega)
    have enc : (nI n0).toNatClampNeg = n0 := nI_clamp (by omega)
    obtain ⟨m, em⟩ : ∃ m, m = min n0 (9999 - sN s 2) := ⟨_, rfl⟩
    have e6 : (nI (9999 - sN s 2)).toInt = ((9999 - sN s 2 : Nat) : Int) := i_nI (by omega)
    have hmin : (if (nI (9999 - sN s 2)).toInt < (nI n0).toInt then nI (9999 - sN s 2) else nI n0) = nI m := by
      by_cases c : (nI (9999 - sN s 2)).toInt < (nI n0).toInt
      · rw [if_pos c]; exact congrArg nI (by omega)
      · rw [if_neg c]; exact congrArg nI (by omega)
    have eF : F_minutes s (nI n0) = (goM s m 3 - s 3, goM s m) := by rw [F_minutes, if_pos hc, enc, ← em]
    rw [eF] at hQ
    have hGM : ∀ i, i < m → Gd (goM s i) := fun i hi => (Gd_goM hG i (by omega)).1
    refine jr_iload_n dX8_minutes_0 rfl ?_
    refine jr_iconst (1) dX8_minutes_1 (by decide) ?_
    refine jr_icmp_lt 11 dX8_minutes_2 (by decide) (fun c_2 => absurd c_2 (by rw [jlit 1]; exact nI_nlt (by omega) (by omega))) (fun c_2 => ?_)
    refine jr_iload_n dX8_minutes_5 rfl ?_
    refine jr_bipush (100) dX8_minutes_6 (by decide) ?_
    refine jr_icmp_le 14 dX8_minutes_8 (by decide) (fun c_8 => ?_) (fun c_8 => absurd (by rw [jlit 100]; exact nI_le (by omega) (by decide)) c_8)
    refine jr_aload_n dX8_minutes_14 rfl ?_
    refine gfX8_12 1 dX8_minutes_15 (hw.k rfl) (hw.f rfl) ?_
    refine gfX8_149 dX8_minutes_18 (hw.k rfl) ?_
    rw [hN.1.2.2.2.1]
    refine jr_istore_2 dX8_minutes_21 (by decide) rfl ?_
    refine jr_aload_n dX8_minutes_22 rfl ?_
    refine gfX8_12 1 dX8_minutes_23 (hw.k rfl) (hw.f rfl) ?_
    refine jr_iload_n dX8_minutes_26 rfl ?_
    refine jr_sipush (9999) dX8_minutes_27 (by decide) ?_
    refine jr_aload_n dX8_minutes_30 rfl ?_
    refine gfX8_12 1 dX8_minutes_31 (hw.k rfl) (hw.f rfl) ?_
    refine gfX8_152 dX8_minutes_34 (hw.k rfl) ?_
    rw [hN.1.2.2.2.2.2.2.1, hmi.1]
    refine jr_isub dX8_minutes_37 ?_
    rw [jlit 9999, pk_sub h99]
    refine jc_Si (c_min g _ _ _) lkX8_137 rfl rfl (Nat.le_of_ble_eq_true rfl) (Nat.le_of_ble_eq_true rfl) dX8_minutes_38 (fun r_38 w_38 h_38 => ?_)
    obtain ⟨rfl, rfl⟩ := h_38
    rw [hmin]
    refine jc_Vv (c_pass g _ hw 1 NA1 s hN m (by omega) hGM) lkX8_155 (hw.k rfl) rfl rfl (Nat.le_of_ble_eq_true rfl) (Nat.le_of_ble_eq_true rfl) dX8_minutes_41 (fun w_41 h_41 => ?_)
    obtain ⟨hN2, hS2⟩ := h_41
    refine jr_aload_n dX8_minutes_44 rfl ?_
    refine gfX8_12 1 dX8_minutes_45 ((hS2.wf hw).k rfl) ((hS2.wf hw).f rfl) ?_
    refine gfX8_149 dX8_minutes_48 ((hS2.wf hw).k rfl) ?_
    rw [hN2.1.2.2.2.1]
    refine jr_iload_n dX8_minutes_51 rfl ?_
    refine jr_isub dX8_minutes_52 ?_
    refine jr_iret rfl dX8_minutes_53 ?_
    exact hQ _ _ ⟨rfl, hN2, hS2.mono (fun i q => by unfold scG scK at q; unfold scX scK; omega)⟩
  · refine jr_iload_n dX8_minutes_0 rfl ?_
    refine jr_iconst (1) dX8_minutes_1 (by decide) ?_
    refine jr_icmp_lt 11 dX8_minutes_2 (by decide) (fun c_2 => ?_) (fun c_2 => ?_)
    · simp only [lt_i, le_i, eq_i, Int32.reduceToInt] at c_2
      refine jr_ldc (-1000000001) ckX8_80 dX8_minutes_11 ?_
      refine jr_iret rfl dX8_minutes_13 ?_
      exact hQ _ _ ⟨by rw [F_minutes, if_neg hc], by rw [F_minutes, if_neg hc]; exact CN.rf hN⟩
    · simp only [lt_i, le_i, eq_i, Int32.reduceToInt] at c_2
      refine jr_iload_n dX8_minutes_5 rfl ?_
      refine jr_bipush (100) dX8_minutes_6 (by decide) ?_
      refine jr_icmp_le 14 dX8_minutes_8 (by decide) (fun c_8 => ?_) (fun c_8 => ?_)
      · simp only [lt_i, le_i, eq_i, Int32.reduceToInt] at c_8
        exfalso; exact hc (by unfold inR; omega)
      · simp only [lt_i, le_i, eq_i, Int32.reduceToInt] at c_8
        refine jr_ldc (-1000000001) ckX8_80 dX8_minutes_11 ?_
        refine jr_iret rfl dX8_minutes_13 ?_
        exact hQ _ _ ⟨by rw [F_minutes, if_neg hc], by rw [F_minutes, if_neg hc]; exact CN.rf hN⟩
theorem p_fits (g : Cx) (w : Wd) (hw : Wf w) (s : Nat → Int32) (hG : Gd s) (hN : NR w 1 s) (x : Int32) : CI g yX8_fits cX8_fits 3 (some .int) 6 0 0 [.ref (gb g + 0), .int x] w (fun r w' => r = F_fits s x ∧ CN w w' s) := by
  obtain ⟨h0, -, hmi, -, -, h8, hC, hNo, hX⟩ := id hG
  have h12 := h8.2
  refine CI.of (own := RX8) (nm := "fits") (lv := [some (.ref (gb g + 0)), some (.int x), none]) (by decide) rfl rfl (Nat.le_of_ble_eq_true rfl) rfl (fun Q hQ => ?_)
  by_cases hc : inR x 0 719
  · have hxr : 0 ≤ x.toInt ∧ x.toInt < 720 := by have := hc; unfold inR at this; omega
    obtain ⟨t, ht, et⟩ := i_of (n := 720) (x := x) hxr.1 hxr.2
    subst et
    have etc : (nI t).toNatClampNeg = t := nI_clamp (by omega)
    have eF : F_fits s (nI t) = jb (fitP s (totT s) t = true) := by rw [F_fits, if_pos hc, etc]
    rw [eF] at hQ
    have hiff := fitB_iff s (totT s) t (sN s 8)
    have L : ∀ (f k : Nat) (w1 : Wd), f + k = sN s 8 → (∀ q, q < k → alP s q (totT s ((t + 720 - q) % 720))) → Sm scY w w1 → RR g RX8 cX8_fits 3 (some .int) "fits" 6 0 0 0 0 15 [some (.ref (gb g + 0)), some (.int (nI t)), some (.int (nI k))] [] w1 Q := by
      intro f
      induction f with
      | zero =>
        intro k w1 hk hq hS
        have e : k = sN s 8 := by omega
        subst e
        have hw1 := hS.wf hw
        have hN1 := hN.y NA1 hS
        refine jr_iload_n dX8_fits_15 rfl ?_
        refine jr_aload_n dX8_fits_16 rfl ?_
        refine gfX8_12 1 dX8_fits_17 (hw1.k rfl) (hw1.f rfl) ?_
        refine gfX8_159 dX8_fits_20 (hw1.k rfl) ?_
        rw [hN1.1.2.2.2.2.2.2.2.2.1, h8.1]
        refine jr_icmp_ge 69 dX8_fits_23 (by decide) (fun c_23 => ?_) (fun c_23 => absurd (Int32.le_refl _) c_23)
        refine jr_iconst (1) dX8_fits_69 (by decide) ?_
        refine jr_iret rfl dX8_fits_70 ?_
        exact hQ _ _ ⟨jb_t' (hiff.mpr hq), CN.y hN hS⟩
      | succ f ih =>
        intro k w1 hk hq hS
        have hw1 := hS.wf hw
        have hN1 := hN.y NA1 hS
        have hk12 : k < 12 := by omega
        have hno := hNo k hk12
        have hno2 := hno.2
        have hlt : (t + 720 - k) % 720 < 720 := Nat.mod_lt _ (by decide)
        have h96 := tot_96 hG ((t + 720 - k) % 720)
        unfold totT at h96
        by_cases hal : alP s k (totT s ((t + 720 - k) % 720))
        · refine jr_iload_n dX8_fits_15 rfl ?_
          refine jr_aload_n dX8_fits_16 rfl ?_
          refine gfX8_12 1 dX8_fits_17 (hw1.k rfl) (hw1.f rfl) ?_
          refine gfX8_159 dX8_fits_20 (hw1.k rfl) ?_
          rw [hN1.1.2.2.2.2.2.2.2.2.1, h8.1]
          refine jr_icmp_ge 69 dX8_fits_23 (by decide) (fun c_23 => absurd c_23 (nI_ge (by omega) (by omega))) (fun c_23 => ?_)
          refine jr_aload_n dX8_fits_26 rfl ?_
          refine gfX8_12 1 dX8_fits_27 (hw1.k rfl) (hw1.f rfl) ?_
          refine jr_aload_n dX8_fits_30 rfl ?_
          refine gfX8_12 1 dX8_fits_31 (hw1.k rfl) (hw1.f rfl) ?_
          refine gfX8_165 3 dX8_fits_34 (hw1.k rfl) (hw1.f rfl) ?_
          refine jr_iload_n dX8_fits_37 rfl ?_
          refine jr_iald k (hw1.k rfl) rfl ⟨hk12, by decide⟩ dX8_fits_38 ?_
          rw [hN1.2.1 k hk12, hno.1]
          refine jr_aload_n dX8_fits_39 rfl ?_
          refine gfX8_12 1 dX8_fits_40 (hw1.k rfl) (hw1.f rfl) ?_
          refine jr_iload_n dX8_fits_43 rfl ?_
          refine jr_iload_n dX8_fits_44 rfl ?_
          refine jr_isub dX8_fits_45 ?_
          refine jr_sipush (720) dX8_fits_46 (by decide) ?_
          refine jc_Si (c_fmod g _ _ (t + 720 - k) (by rw [pk_sub_toInt (by omega) (by omega)]; omega)) lkX8_169 rfl rfl (Nat.le_of_ble_eq_true rfl) (Nat.le_of_ble_eq_true rfl) dX8_fits_49 (fun r_49 w_49 h_49 => ?_)
          obtain ⟨rfl, rfl⟩ := h_49
          refine jc_Vi (c_totalAt g _ hw1 1 NA1 s hG hN1 _ hlt) lkX8_127 (hw1.k rfl) rfl rfl (Nat.le_of_ble_eq_true rfl) (Nat.le_of_ble_eq_true rfl) dX8_fits_52 (fun r_52 w_52 h_52 => ?_)
          obtain ⟨rfl, hS2⟩ := h_52
          refine jc_Vi (c_allows g _ (hS2.wf hw1) 1 NA1 s hG (hN1.k NA1 hS2) _ _ (by omega) (by omega)) lkX8_172 (NA1.n (hS2.wf hw1)) rfl rfl (Nat.le_of_ble_eq_true rfl) (Nat.le_of_ble_eq_true rfl) dX8_fits_55 (fun r_55 w_55 h_55 => ?_)
          obtain ⟨rfl, rfl⟩ := h_55
          refine jr_if_ne 63 dX8_fits_58 (by decide) (fun c_58 => ?_) (fun c_58 => absurd c_58 (jb_1.mpr hal))
          refine jr_iinc_2 (nI (k + 1)) dX8_fits_63 (inc1 k) (by decide) rfl ?_
          refine jr_goto 15 dX8_fits_66 (by decide) ?_
          refine ih (k + 1) _ (by omega) (fun q hq2 => ?_) (hS.tr (yk hS2))
          by_cases e : q = k
          · rw [e]; exact hal
          · exact hq q (by omega)
        · refine jr_iload_n dX8_fits_15 rfl ?_
          refine jr_aload_n dX8_fits_16 rfl ?_
          refine gfX8_12 1 dX8_fits_17 (hw1.k rfl) (hw1.f rfl) ?_
          refine gfX8_159 dX8_fits_20 (hw1.k rfl) ?_
          rw [hN1.1.2.2.2.2.2.2.2.2.1, h8.1]
          refine jr_icmp_ge 69 dX8_fits_23 (by decide) (fun c_23 => absurd c_23 (nI_ge (by omega) (by omega))) (fun c_23 => ?_)
          refine jr_aload_n dX8_fits_26 rfl ?_
          refine gfX8_12 1 dX8_fits_27 (hw1.k rfl) (hw1.f rfl) ?_
          refine jr_aload_n dX8_fits_30 rfl ?_
          refine gfX8_12 1 dX8_fits_31 (hw1.k rfl) (hw1.f rfl) ?_
          refine gfX8_165 3 dX8_fits_34 (hw1.k rfl) (hw1.f rfl) ?_
          refine jr_iload_n dX8_fits_37 rfl ?_
          refine jr_iald k (hw1.k rfl) rfl ⟨hk12, by decide⟩ dX8_fits_38 ?_
          rw [hN1.2.1 k hk12, hno.1]
          refine jr_aload_n dX8_fits_39 rfl ?_
          refine gfX8_12 1 dX8_fits_40 (hw1.k rfl) (hw1.f rfl) ?_
          refine jr_iload_n dX8_fits_43 rfl ?_
          refine jr_iload_n dX8_fits_44 rfl ?_
          refine jr_isub dX8_fits_45 ?_
          refine jr_sipush (720) dX8_fits_46 (by decide) ?_
          refine jc_Si (c_fmod g _ _ (t + 720 - k) (by rw [pk_sub_toInt (by omega) (by omega)]; omega)) lkX8_169 rfl rfl (Nat.le_of_ble_eq_true rfl) (Nat.le_of_ble_eq_true rfl) dX8_fits_49 (fun r_49 w_49 h_49 => ?_)
          obtain ⟨rfl, rfl⟩ := h_49
          refine jc_Vi (c_totalAt g _ hw1 1 NA1 s hG hN1 _ hlt) lkX8_127 (hw1.k rfl) rfl rfl (Nat.le_of_ble_eq_true rfl) (Nat.le_of_ble_eq_true rfl) dX8_fits_52 (fun r_52 w_52 h_52 => ?_)
          obtain ⟨rfl, hS2⟩ := h_52
          refine jc_Vi (c_allows g _ (hS2.wf hw1) 1 NA1 s hG (hN1.k NA1 hS2) _ _ (by omega) (by omega)) lkX8_172 (NA1.n (hS2.wf hw1)) rfl rfl (Nat.le_of_ble_eq_true rfl) (Nat.le_of_ble_eq_true rfl) dX8_fits_55 (fun r_55 w_55 h_55 => ?_)
          obtain ⟨rfl, rfl⟩ := h_55
          refine jr_if_ne 63 dX8_fits_58 (by decide) (fun c_58 => absurd (jb_f hal) c_58) (fun c_58 => ?_)
          refine jr_iconst (0) dX8_fits_61 (by decide) ?_
          refine jr_iret rfl dX8_fits_62 ?_
          exact hQ _ _ ⟨jb_f' (fun h => hal (hiff.mp h k (by omega))), CN.y hN (hS.tr (yk hS2))⟩
    refine jr_iload_n dX8_fits_0 rfl ?_
    refine jr_sipush (720) dX8_fits_1 (by decide) ?_
    refine jc_Si (c_wi g _ _ _ 720 rfl) lkX8_76 rfl rfl (Nat.le_of_ble_eq_true rfl) (Nat.le_of_ble_eq_true rfl) dX8_fits_4 (fun r_4 w_4 h_4 => ?_)
    obtain ⟨rfl, rfl⟩ := h_4
    refine jr_if_ne 13 dX8_fits_7 (by decide) (fun c_7 => ?_) (fun c_7 => absurd c_7 (jb_1.mpr hxr))
    refine jr_iconst (0) dX8_fits_13 (by decide) ?_
    refine jr_istore_2 dX8_fits_14 (by decide) rfl ?_
    exact L _ 0 w rfl (fun q hq => absurd hq (by omega)) Sm.rf
  · refine jr_iload_n dX8_fits_0 rfl ?_
    refine jr_sipush (720) dX8_fits_1 (by decide) ?_
    refine jc_Si (c_wi g _ _ _ 720 rfl) lkX8_76 rfl rfl (Nat.le_of_ble_eq_true rfl) (Nat.le_of_ble_eq_true rfl) dX8_fits_4 (fun r_4 w_4 h_4 => ?_)
    obtain ⟨rfl, rfl⟩ := h_4
    refine jr_if_ne 13 dX8_fits_7 (by decide) (fun c_7 => ?_) (fun c_7 => ?_)
    · rw [jb_1] at c_7
      exfalso; exact hc (by unfold inR; omega)
    · rw [jb_0] at c_7
      refine jr_ldc (-1000000001) ckX8_80 dX8_fits_10 ?_
      refine jr_iret rfl dX8_fits_12 ?_
      exact hQ _ _ ⟨by rw [F_fits, if_neg hc], CN.rf hN⟩
theorem p_may (g : Cx) (w : Wd) (hw : Wf w) (s : Nat → Int32) (hG : Gd s) (hN : NR w 1 s) (x : Int32) : CI g yX8_may cX8_may 2 (some .int) 6 0 0 [.ref (gb g + 0), .int x] w (fun r w' => r = F_may s x ∧ CN w w' s) := by
  obtain ⟨h0, -, hmi, -, -, h8, hC, hNo, hX⟩ := id hG
  refine CI.of (own := RX8) (nm := "may") (lv := [some (.ref (gb g + 0)), some (.int x)]) (by decide) rfl rfl (Nat.le_of_ble_eq_true rfl) rfl (fun Q hQ => ?_)
  by_cases hc : inR x 0 3
  · have hxr : 0 ≤ x.toInt ∧ x.toInt < 4 := by have := hc; unfold inR at this; omega
    have K40 : ∀ w1, Sm scY w w1 → FdR (wI w1 34) s (totT s) → RR g RX8 cX8_may 2 (some .int) "may" 6 0 0 0 0 40 [some (.ref (gb g + 0)), some (.int x)] [] w1 Q := by
      intro w1 hS hF
      have hw1 := hS.wf hw
      refine jr_iload_n dX8_may_40 rfl ?_
      refine swX8_may_41 (fun c_41 => ?_) (fun c_41 => ?_) (fun c_41 => ?_) (fun c_41 => ?_)
      · refine jr_aload_n dX8_may_68 rfl ?_
        refine gfX8_29 34 dX8_may_69 (hw1.k rfl) (hw1.f rfl) ?_
        refine gfX8_185 dX8_may_72 (hw1.k rfl) ?_
        refine jr_iret rfl dX8_may_75 ?_
        exact hQ _ _ ⟨by rw [F_may, if_pos hc, if_pos (by omega)]; exact hF.1, CN.y hN hS⟩
      · refine jr_aload_n dX8_may_76 rfl ?_
        refine gfX8_29 34 dX8_may_77 (hw1.k rfl) (hw1.f rfl) ?_
        refine gfX8_188 dX8_may_80 (hw1.k rfl) ?_
        refine jr_iret rfl dX8_may_83 ?_
        exact hQ _ _ ⟨by rw [F_may, if_pos hc, if_neg (by omega), if_pos (by omega)]; exact hF.2.1, CN.y hN hS⟩
      · refine jr_aload_n dX8_may_84 rfl ?_
        refine gfX8_29 34 dX8_may_85 (hw1.k rfl) (hw1.f rfl) ?_
        refine gfX8_191 dX8_may_88 (hw1.k rfl) ?_
        refine jr_iret rfl dX8_may_91 ?_
        exact hQ _ _ ⟨by rw [F_may, if_pos hc, if_neg (by omega), if_neg (by omega), if_neg (by omega)]; exact hF.2.2, CN.y hN hS⟩
      · refine jr_aload_n dX8_may_92 rfl ?_
        refine gfX8_29 34 dX8_may_93 (hw1.k rfl) (hw1.f rfl) ?_
        refine jc_Vi (c_isSure g _ hw1 (fitP s (totT s)) hF.2.1) lkX8_194 (hw1.k rfl) rfl rfl (Nat.le_of_ble_eq_true rfl) (Nat.le_of_ble_eq_true rfl) dX8_may_96 (fun r_96 w_96 h_96 => ?_)
        obtain ⟨rfl, rfl⟩ := h_96
        refine jr_if_eq 106 dX8_may_99 (by decide) (fun c_99 => ?_) (fun c_99 => ?_)
        · rw [jb_0] at c_99
          refine jr_iconst (0) dX8_may_106 (by decide) ?_
          refine jr_iret rfl dX8_may_107 ?_
          refine hQ _ _ ⟨?_, CN.y hN hS⟩
          rw [F_may, if_pos hc, if_neg (by omega), if_neg (by omega), if_pos (by omega)]
          first | exact jb_t' c_99 | exact jb_f' c_99
        · rw [jb_1] at c_99
          refine jr_iconst (1) dX8_may_102 (by decide) ?_
          refine jr_goto 107 dX8_may_103 (by decide) ?_
          refine jr_iret rfl dX8_may_107 ?_
          refine hQ _ _ ⟨?_, CN.y hN hS⟩
          rw [F_may, if_pos hc, if_neg (by omega), if_neg (by omega), if_pos (by omega)]
          first | exact jb_t' c_99 | exact jb_f' c_99
    have K33 : ∀ w1, Sm scY w w1 → AllR (wI w1 35) (totT s) → wI w1 34 2 = s 8 → AlR (wI w1 36) s → RR g RX8 cX8_may 2 (some .int) "may" 6 0 0 0 0 33 [some (.ref (gb g + 0)), some (.int x)] [] w1 Q := by
      intro w1 hS hT h2 hAl
      have hw1 := hS.wf hw
      refine jr_aload_n dX8_may_33 rfl ?_
      refine gfX8_29 34 dX8_may_34 (hw1.k rfl) (hw1.f rfl) ?_
      refine jc_Vv (c_findTimes g _ hw1 s h8 (totT s) hT (tot_96 hG) h2 hAl) lkX8_182 (hw1.k rfl) rfl rfl (Nat.le_of_ble_eq_true rfl) (Nat.le_of_ble_eq_true rfl) dX8_may_37 (fun w_37 h_37 => ?_)
      obtain ⟨hF, -, hS2⟩ := h_37
      exact K40 _ (hS.tr (y34 hS2)) hF
    have K22 : ∀ w1, Sm scY w w1 → AllR (wI w1 35) (totT s) → RR g RX8 cX8_may 2 (some .int) "may" 6 0 0 0 0 22 [some (.ref (gb g + 0)), some (.int x)] [] w1 Q := by
      intro w1 hS hT
      have hw1 := hS.wf hw
      refine jr_aload_n dX8_may_22 rfl ?_
      refine gfX8_29 34 dX8_may_23 (hw1.k rfl) (hw1.f rfl) ?_
      refine jr_aload_n dX8_may_26 rfl ?_
      refine gfX8_12 1 dX8_may_27 (hw1.k rfl) (hw1.f rfl) ?_
      refine jc_Vv (c_useNotes g _ hw1 1 NA1 s hG (hN.y NA1 hS)) lkX8_179 (hw1.k rfl) rfl rfl (Nat.le_of_ble_eq_true rfl) (Nat.le_of_ble_eq_true rfl) dX8_may_30 (fun w_30 h_30 => ?_)
      obtain ⟨h2, hAl, hS2⟩ := h_30
      exact K33 _ (hS.tr (yu hS2)) (by rw [hS2.row (by unfold scU; omega)]; exact hT) h2 hAl
    refine jr_iload_n dX8_may_0 rfl ?_
    refine jr_iconst (4) dX8_may_1 (by decide) ?_
    refine jc_Si (c_wi g _ _ _ 4 rfl) lkX8_76 rfl rfl (Nat.le_of_ble_eq_true rfl) (Nat.le_of_ble_eq_true rfl) dX8_may_2 (fun r_2 w_2 h_2 => ?_)
    obtain ⟨rfl, rfl⟩ := h_2
    refine jr_if_ne 11 dX8_may_5 (by decide) (fun c_5 => ?_) (fun c_5 => absurd c_5 (jb_1.mpr hxr))
    refine jr_aload_n dX8_may_11 rfl ?_
    refine gfX8_29 34 dX8_may_12 (hw.k rfl) (hw.f rfl) ?_
    refine jr_aload_n dX8_may_15 rfl ?_
    refine gfX8_12 1 dX8_may_16 (hw.k rfl) (hw.f rfl) ?_
    refine jc_Vv (c_useClocks g _ hw 1 NA1 s hG hN) lkX8_175 (hw.k rfl) rfl rfl (Nat.le_of_ble_eq_true rfl) (Nat.le_of_ble_eq_true rfl) dX8_may_19 (fun w_19 h_19 => ?_)
    obtain ⟨hT, hS1⟩ := h_19
    exact K22 _ (yq hS1) hT
  · refine jr_iload_n dX8_may_0 rfl ?_
    refine jr_iconst (4) dX8_may_1 (by decide) ?_
    refine jc_Si (c_wi g _ _ _ 4 rfl) lkX8_76 rfl rfl (Nat.le_of_ble_eq_true rfl) (Nat.le_of_ble_eq_true rfl) dX8_may_2 (fun r_2 w_2 h_2 => ?_)
    obtain ⟨rfl, rfl⟩ := h_2
    refine jr_if_ne 11 dX8_may_5 (by decide) (fun c_5 => ?_) (fun c_5 => ?_)
    · rw [jb_1] at c_5
      exfalso; exact hc (by unfold inR; omega)
    · rw [jb_0] at c_5
      refine jr_ldc (-1000000001) ckX8_80 dX8_may_8 ?_
      refine jr_iret rfl dX8_may_10 ?_
      exact hQ _ _ ⟨by rw [F_may, if_neg hc], CN.rf hN⟩
theorem p_next (g : Cx) (w : Wd) (hw : Wf w) (s : Nat → Int32) (hG : Gd s) (hN : NR w 1 s) : CI g yX8_next cX8_next 2 (some .int) 6 0 0 [.ref (gb g + 0)] w (fun r w' => r = F_next s ∧ CN w w' s) := by
  obtain ⟨h0, -, hmi, -, -, h8, hC, hNo, hX⟩ := id hG
  have hm2 := hmi.2
  refine CI.of (own := RX8) (nm := "next") (lv := [some (.ref (gb g + 0)), none]) (by decide) rfl rfl (Nat.le_of_ble_eq_true rfl) rfl (fun Q hQ => ?_)
  have L : ∀ (f j : Nat) (w1 : Wd), f + j = 60 → (∀ q, q < j → nxP s q = false) → Sm scY w w1 → RR g RX8 cX8_next 2 (some .int) "next" 6 0 0 0 0 2 [some (.ref (gb g + 0)), some (.int (nI (j + 1)))] [] w1 Q := by
    intro f
    induction f with
    | zero =>
      intro j w1 hj hq hS
      have e : j = 60 := by omega
      subst e
      refine jr_iload_n dX8_next_2 rfl ?_
      refine jr_bipush (60) dX8_next_3 (by decide) ?_
      refine jr_icmp_gt 41 dX8_next_5 (by decide) (fun c_5 => ?_) (fun c_5 => absurd (by decide) c_5)
      refine jr_ldc (-1000000005) ckX8_168 dX8_next_41 ?_
      refine jr_iret rfl dX8_next_43 ?_
      exact hQ _ _ ⟨by rw [F_next, fstB_none hq, if_neg (by omega)], CN.y hN hS⟩
    | succ f ih =>
      intro j w1 hj hq hS
      have hw1 := hS.wf hw
      have hN1 := hN.y NA1 hS
      have hlt : (sN s 2 + j) % 720 < 720 := Nat.mod_lt _ (by decide)
      have h96 := tot_96 hG ((sN s 2 + j) % 720)
      have e96 : (nI (totF s ((sN s 2 + j) % 720) (sN s 0))).toInt = (totF s ((sN s 2 + j) % 720) (sN s 0) : Int) := i_nI (by unfold totT at h96; omega)
      have hrem : nI (sN s 2) + nI (j + 1) - 1 - (nI (sN s 2) + nI (j + 1) - 1) / 720 * 720 = nI ((sN s 2 + j) % 720) := by
        rw [nI_add, show sN s 2 + (j + 1) = sN s 2 + j + 1 by omega, nI_pred]
        exact pk_rem (by omega) (by decide) (by decide)
      by_cases hp : nxP s j = true
      · have hp2 := of_decide_eq_true hp
        unfold totT at hp2
        refine jr_iload_n dX8_next_2 rfl ?_
        refine jr_bipush (60) dX8_next_3 (by decide) ?_
        refine jr_icmp_gt 41 dX8_next_5 (by decide) (fun c_5 => absurd c_5 (by rw [jlit 60]; exact nI_nlt (by omega) (by decide))) (fun c_5 => ?_)
        refine jr_aload_n dX8_next_8 rfl ?_
        refine gfX8_12 1 dX8_next_9 (hw1.k rfl) (hw1.f rfl) ?_
        refine jr_aload_n dX8_next_12 rfl ?_
        refine gfX8_12 1 dX8_next_13 (hw1.k rfl) (hw1.f rfl) ?_
        refine gfX8_152 dX8_next_16 (hw1.k rfl) ?_
        rw [hN1.1.2.2.2.2.2.2.1, hmi.1]
        refine jr_iload_n dX8_next_19 rfl ?_
        refine jr_iadd dX8_next_20 ?_
        refine jr_iconst (1) dX8_next_21 (by decide) ?_
        refine jr_isub dX8_next_22 ?_
        refine jr_sipush (720) dX8_next_23 (by decide) ?_
        refine jr_irem dX8_next_26 (by decide) ?_
        rw [hrem]
        refine jc_Vi (c_totalAt g _ hw1 1 NA1 s hG hN1 _ hlt) lkX8_127 (hw1.k rfl) rfl rfl (Nat.le_of_ble_eq_true rfl) (Nat.le_of_ble_eq_true rfl) dX8_next_27 (fun r_27 w_27 h_27 => ?_)
        obtain ⟨rfl, hS2⟩ := h_27
        refine jr_if_le 35 dX8_next_30 (by decide) (fun c_30 => absurd c_30 (by rw [le_i, e96]; show ¬ _ ≤ (0 : Int); omega)) (fun c_30 => ?_)
        refine jr_iload_n dX8_next_33 rfl ?_
        refine jr_iret rfl dX8_next_34 ?_
        exact hQ _ _ ⟨by rw [F_next, fstB_at hq hp (by omega), if_pos (by omega)], CN.y hN (hS.tr (yk hS2))⟩
      · have hp2 : ¬ 0 < totT s ((sN s 2 + j) % 720) := fun h => hp (decide_eq_true h)
        unfold totT at hp2
        refine jr_iload_n dX8_next_2 rfl ?_
        refine jr_bipush (60) dX8_next_3 (by decide) ?_
        refine jr_icmp_gt 41 dX8_next_5 (by decide) (fun c_5 => absurd c_5 (by rw [jlit 60]; exact nI_nlt (by omega) (by decide))) (fun c_5 => ?_)
        refine jr_aload_n dX8_next_8 rfl ?_
        refine gfX8_12 1 dX8_next_9 (hw1.k rfl) (hw1.f rfl) ?_
        refine jr_aload_n dX8_next_12 rfl ?_
        refine gfX8_12 1 dX8_next_13 (hw1.k rfl) (hw1.f rfl) ?_
        refine gfX8_152 dX8_next_16 (hw1.k rfl) ?_
        rw [hN1.1.2.2.2.2.2.2.1, hmi.1]
        refine jr_iload_n dX8_next_19 rfl ?_
        refine jr_iadd dX8_next_20 ?_
        refine jr_iconst (1) dX8_next_21 (by decide) ?_
        refine jr_isub dX8_next_22 ?_
        refine jr_sipush (720) dX8_next_23 (by decide) ?_
        refine jr_irem dX8_next_26 (by decide) ?_
        rw [hrem]
        refine jc_Vi (c_totalAt g _ hw1 1 NA1 s hG hN1 _ hlt) lkX8_127 (hw1.k rfl) rfl rfl (Nat.le_of_ble_eq_true rfl) (Nat.le_of_ble_eq_true rfl) dX8_next_27 (fun r_27 w_27 h_27 => ?_)
        obtain ⟨rfl, hS2⟩ := h_27
        refine jr_if_le 35 dX8_next_30 (by decide) (fun c_30 => ?_) (fun c_30 => absurd (by rw [le_i, e96]; show _ ≤ (0 : Int); omega) c_30)
        refine jr_iinc_1 (nI (j + 1 + 1)) dX8_next_35 (inc1 _) (by decide) rfl ?_
        refine jr_goto 2 dX8_next_38 (by decide) ?_
        refine ih (j + 1) _ (by omega) (fun q hq2 => ?_) (hS.tr (yk hS2))
        by_cases e : q = j
        · rw [e]; exact Bool.eq_false_iff.mpr hp
        · exact hq q (by omega)
  refine jr_iconst (1) dX8_next_0 (by decide) ?_
  refine jr_istore_1 dX8_next_1 (by decide) rfl ?_
  exact L 60 0 w rfl (fun q hq => absurd hq (by omega)) Sm.rf
theorem p_telling (g : Cx) (w : Wd) (hw : Wf w) (s : Nat → Int32) (hG : Gd s) (hN : NR w 1 s) : CI g yX8_telling cX8_telling 1 (some .int) 6 0 0 [.ref (gb g + 0)] w (fun r w' => r = F_telling s ∧ CN w w' s) := by
  refine CI.of (own := RX8) (nm := "telling") (lv := [some (.ref (gb g + 0))]) (by decide) rfl rfl (Nat.le_of_ble_eq_true rfl) rfl (fun Q hQ => ?_)
  have K : ∀ w1, Sm scY w w1 → AllR (wI w1 35) (totT s) → RR g RX8 cX8_telling 1 (some .int) "telling" 6 0 0 0 0 11 [some (.ref (gb g + 0))] [] w1 Q := by
    intro w1 hS hT
    have hw1 := hS.wf hw
    refine jr_aload_n dX8_telling_11 rfl ?_
    refine gfX8_36 37 dX8_telling_12 (hw1.k rfl) (hw1.f rfl) ?_
    refine jr_aload_n dX8_telling_15 rfl ?_
    refine gfX8_29 34 dX8_telling_16 (hw1.k rfl) (hw1.f rfl) ?_
    refine gfX8_202 35 dX8_telling_19 (hw1.k rfl) (hw1.f rfl) ?_
    refine jc_Vi (c_shortest g _ hw1 (totT s) hT (tot_96 hG)) lkX8_205 (hw1.k rfl) rfl rfl (Nat.le_of_ble_eq_true rfl) (Nat.le_of_ble_eq_true rfl) dX8_telling_22 (fun r_22 w_22 h_22 => ?_)
    obtain ⟨rfl, hS2⟩ := h_22
    refine jr_iret rfl dX8_telling_25 ?_
    exact hQ _ _ ⟨rfl, CN.y hN (hS.tr (yv hS2))⟩
  refine jr_aload_n dX8_telling_0 rfl ?_
  refine gfX8_29 34 dX8_telling_1 (hw.k rfl) (hw.f rfl) ?_
  refine jr_aload_n dX8_telling_4 rfl ?_
  refine gfX8_12 1 dX8_telling_5 (hw.k rfl) (hw.f rfl) ?_
  refine jc_Vv (c_useClocks g _ hw 1 NA1 s hG hN) lkX8_175 (hw.k rfl) rfl rfl (Nat.le_of_ble_eq_true rfl) (Nat.le_of_ble_eq_true rfl) dX8_telling_8 (fun w_8 h_8 => ?_)
  obtain ⟨hT, hS1⟩ := h_8
  exact K _ (yq hS1) hT
