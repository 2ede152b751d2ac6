-- the class: its methods of clocks and minutes
theorem NA1 : NA 1 := Or.inl rfl
theorem NA2 : NA 12 := Or.inr (Or.inl rfl)
theorem NA3 : NA 23 := Or.inr (Or.inr rfl)
theorem rk1 {w : Wd} (hw : Wf w) {k : Nat} (hk : k < 6) : wF w 2 k = some (1 + 5 + k) := NA1.rk hw hk
theorem c_wi (g : Cx) (w : Wd) (x y : Int32) (n : Int) (e : y.toInt = n) : CI g yX8_within cX8_within 2 (some .boolean) 1 0 0 [.int x, .int y] w (fun r w' => r = jb (0 ≤ x.toInt ∧ x.toInt < n) ∧ w = w') := by
  subst e
  exact c_within g w x y
/-- what the class's methods change: scratch, and the night now -/
def scX : Nat → Prop := fun i => scK i ∨ (1 ≤ i ∧ i ≤ 11) ∨ (34 ≤ i ∧ i ≤ 42)
def CN (w w' : Wd) (s' : Nat → Int32) : Prop := NR w' 1 s' ∧ Sm scX w w'
theorem CN.rf {w : Wd} {s : Nat → Int32} (h : NR w 1 s) : CN w w s := ⟨h, Sm.rf⟩
theorem CN.k {w w' : Wd} {s : Nat → Int32} (h : NR w 1 s) (hS : Sm scK w w') : CN w w' s := ⟨h.k NA1 hS, hS.mono (fun _ q => Or.inl q)⟩
theorem SameX_u {s : Nat → Int32} {j : Nat} {v : Int32} (h1 : j ≠ 1) (h2 : j < 40) : SameX s (upd s j v) := ⟨pk_un (Ne.symm h1), fun t _ i h3 h4 => pk_un (by omega)⟩
theorem NR.clk {w : Wd} {a : Nat} {s : Nat → Int32} (h : NR w a s) (hA : NA a) (hX : ∀ t, t < sN s 1 → TxOk s t) {k j : Nat} (hk : k < 6) (hj : j < 3) (v : Int32) : NR (sR w (a + 5 + k) (upd (wI w (a + 5 + k)) j v)) a (upd s (10 + 3 * k + j) v) := by
  have hl := hA.le
  have sX : SameX s (upd s (10 + 3 * k + j) v) := SameX_u (by omega) (by omega)
  obtain ⟨⟨n1, n2, n3, n4, n5, n6, n7, n8, n10, n12⟩, h2, h3, h4, h5⟩ := h
  refine ⟨?_, ?_, ?_, ?_, ?_⟩
  · rw [wI_sR_n _ (by omega)]
    exact ⟨by rw [pk_un (by omega)]; exact n1, by rw [pk_un (by omega)]; exact n2, by rw [pk_un (by omega)]; exact n3, by rw [pk_un (by omega)]; exact n4, by rw [pk_un (by omega)]; exact n5, by rw [pk_un (by omega)]; exact n6, by rw [pk_un (by omega)]; exact n7, by rw [pk_un (by omega)]; exact n8, by rw [pk_un (by omega)]; exact n10, by rw [pk_un (by omega)]; exact n12⟩
  · rw [wI_sR_n _ (by omega)]
    intro i hi
    rw [pk_un (by omega)]
    exact h2 i hi
  · intro q hq
    obtain ⟨c0, c1, c2⟩ := h3 q hq
    by_cases e : q = k
    · subst e
      rw [wI_sR_s]
      have hj2 : j = 0 ∨ j = 1 ∨ j = 2 := by omega
      rcases hj2 with rfl | rfl | rfl
      · exact ⟨by rw [pk_us, pk_us], by rw [pk_un (by decide), pk_un (by omega)]; exact c1, by rw [pk_un (by decide), pk_un (by omega)]; exact c2⟩
      · exact ⟨by rw [pk_un (by decide), pk_un (by omega)]; exact c0, by rw [pk_us, pk_us], by rw [pk_un (by decide), pk_un (by omega)]; exact c2⟩
      · exact ⟨by rw [pk_un (by decide), pk_un (by omega)]; exact c0, by rw [pk_un (by decide), pk_un (by omega)]; exact c1, by rw [pk_us, pk_us]⟩
    · rw [wI_sR_n _ (by omega)]
      exact ⟨by rw [pk_un (by omega)]; exact c0, by rw [pk_un (by omega)]; exact c1, by rw [pk_un (by omega)]; exact c2⟩
  · rw [wI_sR_n _ (by omega)]
    intro q hq
    rw [lwF_same sX]
    exact h4 q hq
  · intro t ht
    obtain ⟨b, hb1, hb2⟩ := (h5.same sX hX) t ht
    exact ⟨b, hb1, hb2.sm (Sm.sR (S := fun i => i = a + 5 + k) rfl) (fun i h6 h7 e => by omega)⟩
theorem NR.fld {w : Wd} {a : Nat} {s : Nat → Int32} (h : NR w a s) (hA : NA a) (hX : ∀ t, t < sN s 1 → TxOk s t) {p q : Nat} (hpq : (p = 2 ∧ q = 6) ∨ (p = 3 ∧ q = 7) ∨ (p = 8 ∧ q = 9)) (v : Int32) : NR (sR w a (upd (wI w a) p v)) a (upd s q v) := by
  have hl := hA.le
  have sX : SameX s (upd s q v) := SameX_u (by omega) (by omega)
  obtain ⟨⟨n1, n2, n3, n4, n5, n6, n7, n8, n10, n12⟩, h2, h3, h4, h5⟩ := h
  refine ⟨?_, ?_, ?_, ?_, ?_⟩
  · rw [wI_sR_s]
    rcases hpq with ⟨rfl, rfl⟩ | ⟨rfl, rfl⟩ | ⟨rfl, rfl⟩
    · exact ⟨n1, rfl, n3, n4, n5, n6, n7, n8, n10, n12⟩
    · exact ⟨n1, n2, rfl, n4, n5, n6, n7, n8, n10, n12⟩
    · exact ⟨n1, n2, n3, n4, n5, n6, n7, rfl, n10, n12⟩
  · rw [wI_sR_n _ (by omega)]
    intro i hi
    rw [pk_un (by omega)]
    exact h2 i hi
  · intro k hk
    rw [wI_sR_n _ (by omega), pk_un (by omega), pk_un (by omega), pk_un (by omega)]
    exact h3 k hk
  · rw [wI_sR_n _ (by omega)]
    intro k hk
    rw [lwF_same sX]
    exact h4 k hk
  · intro t ht
    obtain ⟨b, hb1, hb2⟩ := (h5.same sX hX) t ht
    exact ⟨b, hb1, hb2.sm (Sm.sR (S := fun i => i = a) rfl) (fun i h6 h7 e => by omega)⟩
theorem p_clock (g : Cx) (w : Wd) (hw : Wf w) (s : Nat → Int32) (hG : Gd s) (hN : NR w 1 s) (kd o tn : Int32) : CI g yX8_clock cX8_clock 4 (some .int) 2 0 0 [.ref (gb g + 0), .int kd, .int o, .int tn] w (fun r w' => r = (F_clock s kd o tn).1 ∧ CN w w' (F_clock s kd o tn).2) := by
  obtain ⟨h0, -, -, -, -, -, -, -, hX⟩ := id hG
  have h6 := h0.2
  have e0 : (nI (sN s 0)).toInt = (sN s 0 : Int) := i_nI (by omega)
  refine CI.of (own := RX8) (nm := "clock") (lv := [some (.ref (gb g + 0)), some (.int kd), some (.int o), some (.int tn)]) (by decide) rfl rfl (Nat.le_of_ble_eq_true rfl) rfl (fun Q hQ => ?_)
  by_cases hc : inR kd 0 5 ∧ inR o 0 59 ∧ inR tn 0 9
  · by_cases hs6 : sN s 0 = 6
    · refine jr_iload_n dX8_clock_0 rfl ?_
      refine jr_bipush (6) dX8_clock_1 (by decide) ?_
      refine jc_Si (c_wi g _ _ _ 6 rfl) lkX8_76 rfl rfl (Nat.le_of_ble_eq_true rfl) (Nat.le_of_ble_eq_true rfl) dX8_clock_3 (fun r_3 w_3 h_3 => ?_)
      obtain ⟨rfl, rfl⟩ := h_3
      refine jr_if_eq 27 dX8_clock_6 (by decide) (fun c_6 => ?_) (fun c_6 => ?_)
      · rw [jb_0] at c_6
        exfalso; unfold inR at hc; omega
      · rw [jb_1] at c_6
        refine jr_iload_n dX8_clock_9 rfl ?_
        refine jr_bipush (60) dX8_clock_10 (by decide) ?_
        refine jc_Si (c_wi g _ _ _ 60 rfl) lkX8_76 rfl rfl (Nat.le_of_ble_eq_true rfl) (Nat.le_of_ble_eq_true rfl) dX8_clock_12 (fun r_12 w_12 h_12 => ?_)
        obtain ⟨rfl, rfl⟩ := h_12
        refine jr_if_eq 27 dX8_clock_15 (by decide) (fun c_15 => ?_) (fun c_15 => ?_)
        · rw [jb_0] at c_15
          exfalso; unfold inR at hc; omega
        · rw [jb_1] at c_15
          refine jr_iload_n dX8_clock_18 rfl ?_
          refine jr_bipush (10) dX8_clock_19 (by decide) ?_
          refine jc_Si (c_wi g _ _ _ 10 rfl) lkX8_76 rfl rfl (Nat.le_of_ble_eq_true rfl) (Nat.le_of_ble_eq_true rfl) dX8_clock_21 (fun r_21 w_21 h_21 => ?_)
          obtain ⟨rfl, rfl⟩ := h_21
          refine jr_if_ne 30 dX8_clock_24 (by decide) (fun c_24 => ?_) (fun c_24 => ?_)
          · rw [jb_1] at c_24
            refine jr_aload_n dX8_clock_30 rfl ?_
            refine gfX8_12 1 dX8_clock_31 (hw.k rfl) (hw.f rfl) ?_
            refine gfX8_81 dX8_clock_34 (hw.k rfl) ?_
            rw [hN.1.1, h0.1]
            refine jr_bipush (6) dX8_clock_37 (by decide) ?_
            refine jr_icmp_lt 45 dX8_clock_39 (by decide) (fun c_39 => absurd c_39 (by rw [jlit 6]; exact nI_nlt (by omega) (by omega))) (fun c_39 => ?_)
            refine jr_ldc (-1000000003) ckX8_84 dX8_clock_42 ?_
            refine jr_iret rfl dX8_clock_44 ?_
            exact hQ _ _ ⟨by rw [F_clock, if_pos hc, if_pos hs6], by rw [F_clock, if_pos hc, if_pos hs6]; exact CN.rf hN⟩
          · rw [jb_0] at c_24
            exfalso; unfold inR at hc; omega
    · have hlt : sN s 0 < 6 := by omega
      refine jr_iload_n dX8_clock_0 rfl ?_
      refine jr_bipush (6) dX8_clock_1 (by decide) ?_
      refine jc_Si (c_wi g _ _ _ 6 rfl) lkX8_76 rfl rfl (Nat.le_of_ble_eq_true rfl) (Nat.le_of_ble_eq_true rfl) dX8_clock_3 (fun r_3 w_3 h_3 => ?_)
      obtain ⟨rfl, rfl⟩ := h_3
      refine jr_if_eq 27 dX8_clock_6 (by decide) (fun c_6 => ?_) (fun c_6 => ?_)
      · rw [jb_0] at c_6
        exfalso; unfold inR at hc; omega
      · rw [jb_1] at c_6
        refine jr_iload_n dX8_clock_9 rfl ?_
        refine jr_bipush (60) dX8_clock_10 (by decide) ?_
        refine jc_Si (c_wi g _ _ _ 60 rfl) lkX8_76 rfl rfl (Nat.le_of_ble_eq_true rfl) (Nat.le_of_ble_eq_true rfl) dX8_clock_12 (fun r_12 w_12 h_12 => ?_)
        obtain ⟨rfl, rfl⟩ := h_12
        refine jr_if_eq 27 dX8_clock_15 (by decide) (fun c_15 => ?_) (fun c_15 => ?_)
        · rw [jb_0] at c_15
          exfalso; unfold inR at hc; omega
        · rw [jb_1] at c_15
          refine jr_iload_n dX8_clock_18 rfl ?_
          refine jr_bipush (10) dX8_clock_19 (by decide) ?_
          refine jc_Si (c_wi g _ _ _ 10 rfl) lkX8_76 rfl rfl (Nat.le_of_ble_eq_true rfl) (Nat.le_of_ble_eq_true rfl) dX8_clock_21 (fun r_21 w_21 h_21 => ?_)
          obtain ⟨rfl, rfl⟩ := h_21
          refine jr_if_ne 30 dX8_clock_24 (by decide) (fun c_24 => ?_) (fun c_24 => ?_)
          · rw [jb_1] at c_24
            refine jr_aload_n dX8_clock_30 rfl ?_
            refine gfX8_12 1 dX8_clock_31 (hw.k rfl) (hw.f rfl) ?_
            refine gfX8_81 dX8_clock_34 (hw.k rfl) ?_
            rw [hN.1.1, h0.1]
            refine jr_bipush (6) dX8_clock_37 (by decide) ?_
            refine jr_icmp_lt 45 dX8_clock_39 (by decide) (fun c_39 => ?_) (fun c_39 => absurd (by rw [jlit 6]; exact nI_lt hlt (by decide)) c_39)
            refine jr_aload_n dX8_clock_45 rfl ?_
            refine gfX8_12 1 dX8_clock_46 (hw.k rfl) (hw.f rfl) ?_
            refine jr_iload_n dX8_clock_49 rfl ?_
            refine jr_iload_n dX8_clock_50 rfl ?_
            refine jr_iload_n dX8_clock_51 rfl ?_
            refine jc_Vv (c_addClock g _ hw 1 NA1 s hX hN (sN s 0) hlt h0.1 kd o tn) lkX8_85 (hw.k rfl) rfl rfl (Nat.le_of_ble_eq_true rfl) (Nat.le_of_ble_eq_true rfl) dX8_clock_52 (fun w_52 h_52 => ?_)
            obtain ⟨hN2, hS2⟩ := h_52
            refine jr_aload_n dX8_clock_55 rfl ?_
            refine gfX8_12 1 dX8_clock_56 ((hS2.wf hw).k rfl) ((hS2.wf hw).f rfl) ?_
            refine gfX8_81 dX8_clock_59 ((hS2.wf hw).k rfl) ?_
            rw [hN2.1.1, comesF, pk_un (by omega), pk_un (by omega), pk_un (by omega), pk_us]
            refine jr_iconst (1) dX8_clock_62 (by decide) ?_
            refine jr_isub dX8_clock_63 ?_
            rw [nI_pred]
            refine jr_iret rfl dX8_clock_64 ?_
            exact hQ _ _ ⟨by rw [F_clock, if_pos hc, if_neg hs6], by rw [F_clock, if_pos hc, if_neg hs6]; exact ⟨hN2, hS2.mono (fun i q => by unfold scA1 at q; unfold scX; omega)⟩⟩
          · rw [jb_0] at c_24
            exfalso; unfold inR at hc; omega
  · refine jr_iload_n dX8_clock_0 rfl ?_
    refine jr_bipush (6) dX8_clock_1 (by decide) ?_
    refine jc_Si (c_wi g _ _ _ 6 rfl) lkX8_76 rfl rfl (Nat.le_of_ble_eq_true rfl) (Nat.le_of_ble_eq_true rfl) dX8_clock_3 (fun r_3 w_3 h_3 => ?_)
    obtain ⟨rfl, rfl⟩ := h_3
    refine jr_if_eq 27 dX8_clock_6 (by decide) (fun c_6 => ?_) (fun c_6 => ?_)
    · rw [jb_0] at c_6
      refine jr_ldc (-1000000001) ckX8_80 dX8_clock_27 ?_
      refine jr_iret rfl dX8_clock_29 ?_
      exact hQ _ _ ⟨by rw [F_clock, if_neg hc], by rw [F_clock, if_neg hc]; exact CN.rf hN⟩
    · rw [jb_1] at c_6
      refine jr_iload_n dX8_clock_9 rfl ?_
      refine jr_bipush (60) dX8_clock_10 (by decide) ?_
      refine jc_Si (c_wi g _ _ _ 60 rfl) lkX8_76 rfl rfl (Nat.le_of_ble_eq_true rfl) (Nat.le_of_ble_eq_true rfl) dX8_clock_12 (fun r_12 w_12 h_12 => ?_)
      obtain ⟨rfl, rfl⟩ := h_12
      refine jr_if_eq 27 dX8_clock_15 (by decide) (fun c_15 => ?_) (fun c_15 => ?_)
      · rw [jb_0] at c_15
        refine jr_ldc (-1000000001) ckX8_80 dX8_clock_27 ?_
        refine jr_iret rfl dX8_clock_29 ?_
        exact hQ _ _ ⟨by rw [F_clock, if_neg hc], by rw [F_clock, if_neg hc]; exact CN.rf hN⟩
      · rw [jb_1] at c_15
        refine jr_iload_n dX8_clock_18 rfl ?_
        refine jr_bipush (10) dX8_clock_19 (by decide) ?_
        refine jc_Si (c_wi g _ _ _ 10 rfl) lkX8_76 rfl rfl (Nat.le_of_ble_eq_true rfl) (Nat.le_of_ble_eq_true rfl) dX8_clock_21 (fun r_21 w_21 h_21 => ?_)
        obtain ⟨rfl, rfl⟩ := h_21
        refine jr_if_ne 30 dX8_clock_24 (by decide) (fun c_24 => ?_) (fun c_24 => ?_)
        · rw [jb_1] at c_24
          exfalso; exact hc (by unfold inR; omega)
        · rw [jb_0] at c_24
          refine jr_ldc (-1000000001) ckX8_80 dX8_clock_27 ?_
          refine jr_iret rfl dX8_clock_29 ?_
          exact hQ _ _ ⟨by rw [F_clock, if_neg hc], by rw [F_clock, if_neg hc]; exact CN.rf hN⟩
theorem p_told (g : Cx) (w : Wd) (hw : Wf w) (s : Nat → Int32) (hG : Gd s) (hN : NR w 1 s) (c x : Int32) : CI g yX8_told cX8_told 4 (some .int) 6 0 0 [.ref (gb g + 0), .int c, .int x] w (fun r w' => r = F_told s c x ∧ CN w w' s) := by
  obtain ⟨h0, -, hmi, -, -, -, hC, -, hX⟩ := id hG
  have h6 := h0.2
  refine CI.of (own := RX8) (nm := "told") (lv := [some (.ref (gb g + 0)), some (.int c), some (.int x), none]) (by decide) rfl rfl (Nat.le_of_ble_eq_true rfl) rfl (fun Q hQ => ?_)
  by_cases hc : isC s c
  · obtain ⟨k, hk, ek⟩ := i_of (n := sN s 0) (x := c) hc.1 hc.2
    subst ek
    have hk6 : k < 6 := by omega
    have ekc : (nI k).toNatClampNeg = k := nI_clamp (by omega)
    obtain ⟨q0, q1, q2⟩ := hN.2.2.1 k hk6
    have hCk := hN.ck NA1 hw hC hk6
    refine jr_aload_n dX8_told_0 rfl ?_
    refine gfX8_12 1 dX8_told_1 (hw.k rfl) (hw.f rfl) ?_
    refine jr_iload_n dX8_told_4 rfl ?_
    refine jc_Vi (c_hasClock g _ hw 1 NA1 s hN h0 _) lkX8_89 (hw.k rfl) rfl rfl (Nat.le_of_ble_eq_true rfl) (Nat.le_of_ble_eq_true rfl) dX8_told_5 (fun r_5 w_5 h_5 => ?_)
    obtain ⟨rfl, rfl⟩ := h_5
    refine jr_if_ne 14 dX8_told_8 (by decide) (fun c_8 => ?_) (fun c_8 => absurd c_8 (jb_1.mpr hc))
    refine jr_aload_n dX8_told_14 rfl ?_
    refine gfX8_12 1 dX8_told_15 (hw.k rfl) (hw.f rfl) ?_
    refine gfX8_93 2 dX8_told_18 (hw.k rfl) (hw.f rfl) ?_
    refine jr_iload_n dX8_told_21 rfl ?_
    refine jr_aald k (hw.k rfl) (by decide) rfl ⟨hk6, by decide⟩ (by rw [rk1 hw hk6, jrf_s]) dX8_told_22 ?_
    refine jr_astore_3 dX8_told_23 (by decide) rfl ?_
    refine jr_iload_n dX8_told_24 rfl ?_
    refine swX8_told_25 (fun c_25 => ?_) (fun c_25 => ?_) (fun c_25 => ?_) (fun c_25 => ?_) (fun c_25 => ?_) (fun c_25 => ?_) (fun c_25 => ?_)
    · have exc : x.toNatClampNeg = 0 := by have : x.toNatClampNeg = x.toInt.toNat := rfl; omega
      refine jr_aload_n dX8_told_64 rfl ?_
      refine gfX8_97 dX8_told_65 (NA1.k hw hk6) ?_
      refine jr_iret rfl dX8_told_68 ?_
      exact hQ _ _ ⟨by rw [F_told, if_pos ⟨hc, by unfold inR; omega⟩, if_pos (by omega), exc, ekc]; exact q0, CN.rf hN⟩
    · have exc : x.toNatClampNeg = 1 := by have : x.toNatClampNeg = x.toInt.toNat := rfl; omega
      refine jr_aload_n dX8_told_69 rfl ?_
      refine gfX8_102 dX8_told_70 (NA1.k hw hk6) ?_
      refine jr_iret rfl dX8_told_73 ?_
      exact hQ _ _ ⟨by rw [F_told, if_pos ⟨hc, by unfold inR; omega⟩, if_pos (by omega), exc, ekc]; exact q1, CN.rf hN⟩
    · have exc : x.toNatClampNeg = 2 := by have : x.toNatClampNeg = x.toInt.toNat := rfl; omega
      refine jr_aload_n dX8_told_74 rfl ?_
      refine gfX8_105 dX8_told_75 (NA1.k hw hk6) ?_
      refine jr_iret rfl dX8_told_78 ?_
      exact hQ _ _ ⟨by rw [F_told, if_pos ⟨hc, by unfold inR; omega⟩, if_pos (by omega), exc, ekc]; exact q2, CN.rf hN⟩
    · refine jr_aload_n dX8_told_79 rfl ?_
      refine gfX8_12 1 dX8_told_80 (hw.k rfl) (hw.f rfl) ?_
      refine jr_aload_n dX8_told_83 rfl ?_
      refine jr_aload_n dX8_told_84 rfl ?_
      refine gfX8_12 1 dX8_told_85 (hw.k rfl) (hw.f rfl) ?_
      refine jc_Vi (c_timeNow g _ hw 1 NA1 s hN hmi) lkX8_108 (hw.k rfl) rfl rfl (Nat.le_of_ble_eq_true rfl) (Nat.le_of_ble_eq_true rfl) dX8_told_88 (fun r_88 w_88 h_88 => ?_)
      obtain ⟨rfl, rfl⟩ := h_88
      refine jc_Vi (c_strokesAt g _ hw 1 NA1 s hG hN _ _ _ _ hCk _ (Nat.mod_lt _ (by decide))) lkX8_112 (hw.k rfl) rfl rfl (Nat.le_of_ble_eq_true rfl) (Nat.le_of_ble_eq_true rfl) dX8_told_91 (fun r_91 w_91 h_91 => ?_)
      obtain ⟨rfl, hS2⟩ := h_91
      refine jr_iret rfl dX8_told_94 ?_
      exact hQ _ _ ⟨by rw [F_told, if_pos ⟨hc, by unfold inR; omega⟩, if_neg (by omega), if_pos (by omega), ekc]; rfl, CN.k hN hS2⟩
    · refine jr_aload_n dX8_told_95 rfl ?_
      refine gfX8_12 1 dX8_told_96 (hw.k rfl) (hw.f rfl) ?_
      refine jr_aload_n dX8_told_99 rfl ?_
      refine jc_Vi (c_sOfAll g _ hw 1 NA1 s hG hN k hk6) lkX8_116 (hw.k rfl) rfl rfl (Nat.le_of_ble_eq_true rfl) (Nat.le_of_ble_eq_true rfl) dX8_told_100 (fun r_100 w_100 h_100 => ?_)
      obtain ⟨rfl, hS2⟩ := h_100
      refine jr_iret rfl dX8_told_103 ?_
      exact hQ _ _ ⟨by rw [F_told, if_pos ⟨hc, by unfold inR; omega⟩, if_neg (by omega), if_neg (by omega), if_pos (by omega), ekc], CN.k hN hS2⟩
    · refine jr_aload_n dX8_told_104 rfl ?_
      refine jc_Vi (c_cworth g _ (1 + 5 + k) _ (NA1.k hw hk6) hCk.2.2.2.2.1 hCk.2.1) lkX8_120 (NA1.k hw hk6) rfl rfl (Nat.le_of_ble_eq_true rfl) (Nat.le_of_ble_eq_true rfl) dX8_told_105 (fun r_105 w_105 h_105 => ?_)
      obtain ⟨rfl, rfl⟩ := h_105
      refine jr_iret rfl dX8_told_108 ?_
      exact hQ _ _ ⟨by rw [F_told, if_pos ⟨hc, by unfold inR; omega⟩, if_neg (by omega), if_neg (by omega), if_neg (by omega), ekc, q1], CN.rf hN⟩
    · refine jr_ldc (-1000000001) ckX8_80 dX8_told_109 ?_
      refine jr_iret rfl dX8_told_111 ?_
      exact hQ _ _ ⟨by rw [F_told, if_neg (fun h => by have := h.2; unfold inR at this; omega)], CN.rf hN⟩
  · refine jr_aload_n dX8_told_0 rfl ?_
    refine gfX8_12 1 dX8_told_1 (hw.k rfl) (hw.f rfl) ?_
    refine jr_iload_n dX8_told_4 rfl ?_
    refine jc_Vi (c_hasClock g _ hw 1 NA1 s hN h0 _) lkX8_89 (hw.k rfl) rfl rfl (Nat.le_of_ble_eq_true rfl) (Nat.le_of_ble_eq_true rfl) dX8_told_5 (fun r_5 w_5 h_5 => ?_)
    obtain ⟨rfl, rfl⟩ := h_5
    refine jr_if_ne 14 dX8_told_8 (by decide) (fun c_8 => absurd (jb_f hc) c_8) (fun c_8 => ?_)
    refine jr_ldc (-1000000001) ckX8_80 dX8_told_11 ?_
    refine jr_iret rfl dX8_told_13 ?_
    exact hQ _ _ ⟨by rw [F_told, if_neg (fun h => hc h.1)], CN.rf hN⟩
theorem p_as (g : Cx) (w : Wd) (hw : Wf w) (s : Nat → Int32) (hG : Gd s) (hN : NR w 1 s) (c x : Int32) : CI g yX8_as cX8_as 4 (some .int) 3 0 0 [.ref (gb g + 0), .int c, .int x] w (fun r w' => r = F_as s c x ∧ CN w w' s) := by
  obtain ⟨h0, -, hmi, -, -, -, hC, -, hX⟩ := id hG
  have h6 := h0.2
  refine CI.of (own := RX8) (nm := "as") (lv := [some (.ref (gb g + 0)), some (.int c), some (.int x), none]) (by decide) rfl rfl (Nat.le_of_ble_eq_true rfl) rfl (fun Q hQ => ?_)
  by_cases hc : isC s c ∧ inR x 0 5
  · obtain ⟨k, hk, ek⟩ := i_of (n := sN s 0) (x := c) hc.1.1 hc.1.2
    obtain ⟨q, hq, eq⟩ := i_of (n := 6) (x := x) (by have := hc.2; unfold inR at this; omega) (by have := hc.2; unfold inR at this; omega)
    have hxr : 0 ≤ x.toInt ∧ x.toInt < 6 := by have := hc.2; unfold inR at this; omega
    subst ek
    subst eq
    have hk6 : k < 6 := by omega
    have ekc : (nI k).toNatClampNeg = k := nI_clamp (by omega)
    obtain ⟨q0, q1, q2⟩ := hN.2.2.1 k hk6
    have hCk := hN.ck NA1 hw hC hk6
    have hk5 := hCk.2.2.2.2.1
    have eq5 : (nI q).toInt = (q : Int) := i_nI (by omega)
    have ekd : (s (10 + 3 * k + 0)).toInt = (sN s (10 + 3 * k + 0) : Int) := by rw [← q0, hCk.2.1, i_nI (by omega)]
    refine jr_aload_n dX8_as_0 rfl ?_
    refine gfX8_12 1 dX8_as_1 (hw.k rfl) (hw.f rfl) ?_
    refine jr_iload_n dX8_as_4 rfl ?_
    refine jc_Vi (c_hasClock g _ hw 1 NA1 s hN h0 _) lkX8_89 (hw.k rfl) rfl rfl (Nat.le_of_ble_eq_true rfl) (Nat.le_of_ble_eq_true rfl) dX8_as_5 (fun r_5 w_5 h_5 => ?_)
    obtain ⟨rfl, rfl⟩ := h_5
    refine jr_if_eq 20 dX8_as_8 (by decide) (fun c_8 => absurd c_8 (jb_1.mpr hc.1)) (fun c_8 => ?_)
    refine jr_iload_n dX8_as_11 rfl ?_
    refine jr_bipush (6) dX8_as_12 (by decide) ?_
    refine jc_Si (c_wi g _ _ _ 6 rfl) lkX8_76 rfl rfl (Nat.le_of_ble_eq_true rfl) (Nat.le_of_ble_eq_true rfl) dX8_as_14 (fun r_14 w_14 h_14 => ?_)
    obtain ⟨rfl, rfl⟩ := h_14
    refine jr_if_ne 23 dX8_as_17 (by decide) (fun c_17 => ?_) (fun c_17 => absurd c_17 (jb_1.mpr hxr))
    refine jr_aload_n dX8_as_23 rfl ?_
    refine gfX8_12 1 dX8_as_24 (hw.k rfl) (hw.f rfl) ?_
    refine gfX8_93 2 dX8_as_27 (hw.k rfl) (hw.f rfl) ?_
    refine jr_iload_n dX8_as_30 rfl ?_
    refine jr_aald k (hw.k rfl) (by decide) rfl ⟨hk6, by decide⟩ (by rw [rk1 hw hk6, jrf_s]) dX8_as_31 ?_
    refine jr_astore_3 dX8_as_32 (by decide) rfl ?_
    refine jr_aload_n dX8_as_33 rfl ?_
    refine gfX8_97 dX8_as_34 (NA1.k hw hk6) ?_
    rw [hCk.2.1]
    refine jr_iload_n dX8_as_37 rfl ?_
    refine jc_Si (c_isUnder g _ _ q hk5 (by omega)) lkX8_123 rfl rfl (Nat.le_of_ble_eq_true rfl) (Nat.le_of_ble_eq_true rfl) dX8_as_38 (fun r_38 w_38 h_38 => ?_)
    obtain ⟨rfl, rfl⟩ := h_38
    refine jr_if_eq 51 dX8_as_41 (by decide) (fun c_41 => ?_) (fun c_41 => ?_)
    · rw [jb_0] at c_41
      refine jr_ldc (-1000000012) ckX8_126 dX8_as_51 ?_
      refine jr_iret rfl dX8_as_53 ?_
      refine hQ _ _ ⟨?_, CN.rf hN⟩
      rw [F_as, if_pos hc, ekc]
      first | (rw [if_pos (by omega)]; exact q2) | rw [if_neg (by omega)]
    · rw [jb_1] at c_41
      refine jr_aload_n dX8_as_44 rfl ?_
      refine gfX8_105 dX8_as_45 (NA1.k hw hk6) ?_
      refine jr_goto 53 dX8_as_48 (by decide) ?_
      refine jr_iret rfl dX8_as_53 ?_
      refine hQ _ _ ⟨?_, CN.rf hN⟩
      rw [F_as, if_pos hc, ekc]
      first | (rw [if_pos (by omega)]; exact q2) | rw [if_neg (by omega)]
  · refine jr_aload_n dX8_as_0 rfl ?_
    refine gfX8_12 1 dX8_as_1 (hw.k rfl) (hw.f rfl) ?_
    refine jr_iload_n dX8_as_4 rfl ?_
    refine jc_Vi (c_hasClock g _ hw 1 NA1 s hN h0 _) lkX8_89 (hw.k rfl) rfl rfl (Nat.le_of_ble_eq_true rfl) (Nat.le_of_ble_eq_true rfl) dX8_as_5 (fun r_5 w_5 h_5 => ?_)
    obtain ⟨rfl, rfl⟩ := h_5
    refine jr_if_eq 20 dX8_as_8 (by decide) (fun c_8 => ?_) (fun c_8 => ?_)
    · rw [jb_0] at c_8
      refine jr_ldc (-1000000001) ckX8_80 dX8_as_20 ?_
      refine jr_iret rfl dX8_as_22 ?_
      exact hQ _ _ ⟨by rw [F_as, if_neg hc], CN.rf hN⟩
    · rw [jb_1] at c_8
      refine jr_iload_n dX8_as_11 rfl ?_
      refine jr_bipush (6) dX8_as_12 (by decide) ?_
      refine jc_Si (c_wi g _ _ _ 6 rfl) lkX8_76 rfl rfl (Nat.le_of_ble_eq_true rfl) (Nat.le_of_ble_eq_true rfl) dX8_as_14 (fun r_14 w_14 h_14 => ?_)
      obtain ⟨rfl, rfl⟩ := h_14
      refine jr_if_ne 23 dX8_as_17 (by decide) (fun c_17 => ?_) (fun c_17 => ?_)
      · rw [jb_1] at c_17
        exfalso; exact hc ⟨c_8, by unfold inR; omega⟩
      · rw [jb_0] at c_17
        refine jr_ldc (-1000000001) ckX8_80 dX8_as_20 ?_
        refine jr_iret rfl dX8_as_22 ?_
        exact hQ _ _ ⟨by rw [F_as, if_neg hc], CN.rf hN⟩
theorem p_turns (g : Cx) (w : Wd) (hw : Wf w) (s : Nat → Int32) (hG : Gd s) (hN : NR w 1 s) (c x : Int32) : CI g yX8_turns cX8_turns 5 (some .int) 3 0 0 [.ref (gb g + 0), .int c, .int x] w (fun r w' => r = (F_turns s c x).1 ∧ CN w w' (F_turns s c x).2) := by
  obtain ⟨h0, -, hmi, -, -, -, hC, -, hX⟩ := id hG
  have h6 := h0.2
  refine CI.of (own := RX8) (nm := "turns") (lv := [some (.ref (gb g + 0)), some (.int c), some (.int x), none, none]) (by decide) rfl rfl (Nat.le_of_ble_eq_true rfl) rfl (fun Q hQ => ?_)
  by_cases hc : isC s c ∧ inR x 0 5
  · obtain ⟨k, hk, ek⟩ := i_of (n := sN s 0) (x := c) hc.1.1 hc.1.2
    have hxr : 0 ≤ x.toInt ∧ x.toInt < 6 := by have := hc.2; unfold inR at this; omega
    subst ek
    have hk6 : k < 6 := by omega
    have ekc : (nI k).toNatClampNeg = k := nI_clamp (by omega)
    obtain ⟨q0, q1, q2⟩ := hN.2.2.1 k hk6
    refine jr_aload_n dX8_turns_0 rfl ?_
    refine gfX8_12 1 dX8_turns_1 (hw.k rfl) (hw.f rfl) ?_
    refine jr_iload_n dX8_turns_4 rfl ?_
    refine jc_Vi (c_hasClock g _ hw 1 NA1 s hN h0 _) lkX8_89 (hw.k rfl) rfl rfl (Nat.le_of_ble_eq_true rfl) (Nat.le_of_ble_eq_true rfl) dX8_turns_5 (fun r_5 w_5 h_5 => ?_)
    obtain ⟨rfl, rfl⟩ := h_5
    refine jr_if_eq 20 dX8_turns_8 (by decide) (fun c_8 => absurd c_8 (jb_1.mpr hc.1)) (fun c_8 => ?_)
    refine jr_iload_n dX8_turns_11 rfl ?_
    refine jr_bipush (6) dX8_turns_12 (by decide) ?_
    refine jc_Si (c_wi g _ _ _ 6 rfl) lkX8_76 rfl rfl (Nat.le_of_ble_eq_true rfl) (Nat.le_of_ble_eq_true rfl) dX8_turns_14 (fun r_14 w_14 h_14 => ?_)
    obtain ⟨rfl, rfl⟩ := h_14
    refine jr_if_ne 23 dX8_turns_17 (by decide) (fun c_17 => ?_) (fun c_17 => absurd c_17 (jb_1.mpr hxr))
    refine jr_aload_n dX8_turns_23 rfl ?_
    refine gfX8_12 1 dX8_turns_24 (hw.k rfl) (hw.f rfl) ?_
    refine gfX8_93 2 dX8_turns_27 (hw.k rfl) (hw.f rfl) ?_
    refine jr_iload_n dX8_turns_30 rfl ?_
    refine jr_aald k (hw.k rfl) (by decide) rfl ⟨hk6, by decide⟩ (by rw [rk1 hw hk6, jrf_s]) dX8_turns_31 ?_
    refine jr_astore_3 dX8_turns_32 (by decide) rfl ?_
    refine jr_aload_n dX8_turns_33 rfl ?_
    refine gfX8_97 dX8_turns_34 (NA1.k hw hk6) ?_
    refine jr_istore_4 dX8_turns_37 (by decide) rfl ?_
    refine jr_aload_n dX8_turns_39 rfl ?_
    refine jr_iload_n dX8_turns_40 rfl ?_
    refine pfX8_97 dX8_turns_41 (NA1.k hw hk6) ?_
    refine jr_iload dX8_turns_44 rfl ?_
    refine jr_iret rfl dX8_turns_46 ?_
    refine hQ _ _ ⟨?_, ?_⟩
    · rw [F_turns, if_pos hc, ekc]; exact q0
    · rw [F_turns, if_pos hc, ekc]; exact ⟨hN.clk NA1 hX hk6 (by decide) x, Sm.sR (by unfold scX; omega)⟩
  · refine jr_aload_n dX8_turns_0 rfl ?_
    refine gfX8_12 1 dX8_turns_1 (hw.k rfl) (hw.f rfl) ?_
    refine jr_iload_n dX8_turns_4 rfl ?_
    refine jc_Vi (c_hasClock g _ hw 1 NA1 s hN h0 _) lkX8_89 (hw.k rfl) rfl rfl (Nat.le_of_ble_eq_true rfl) (Nat.le_of_ble_eq_true rfl) dX8_turns_5 (fun r_5 w_5 h_5 => ?_)
    obtain ⟨rfl, rfl⟩ := h_5
    refine jr_if_eq 20 dX8_turns_8 (by decide) (fun c_8 => ?_) (fun c_8 => ?_)
    · rw [jb_0] at c_8
      refine jr_ldc (-1000000001) ckX8_80 dX8_turns_20 ?_
      refine jr_iret rfl dX8_turns_22 ?_
      exact hQ _ _ ⟨by rw [F_turns, if_neg hc], by rw [F_turns, if_neg hc]; exact CN.rf hN⟩
    · rw [jb_1] at c_8
      refine jr_iload_n dX8_turns_11 rfl ?_
      refine jr_bipush (6) dX8_turns_12 (by decide) ?_
      refine jc_Si (c_wi g _ _ _ 6 rfl) lkX8_76 rfl rfl (Nat.le_of_ble_eq_true rfl) (Nat.le_of_ble_eq_true rfl) dX8_turns_14 (fun r_14 w_14 h_14 => ?_)
      obtain ⟨rfl, rfl⟩ := h_14
      refine jr_if_ne 23 dX8_turns_17 (by decide) (fun c_17 => ?_) (fun c_17 => ?_)
      · rw [jb_1] at c_17
        exfalso; exact hc ⟨c_8, by unfold inR; omega⟩
      · rw [jb_0] at c_17
        refine jr_ldc (-1000000001) ckX8_80 dX8_turns_20 ?_
        refine jr_iret rfl dX8_turns_22 ?_
        exact hQ _ _ ⟨by rw [F_turns, if_neg hc], by rw [F_turns, if_neg hc]; exact CN.rf hN⟩
theorem p_set (g : Cx) (w : Wd) (hw : Wf w) (s : Nat → Int32) (hG : Gd s) (hN : NR w 1 s) (c x v : Int32) : CI g yX8_set cX8_set 6 (some .int) 3 0 0 [.ref (gb g + 0), .int c, .int x, .int v] w (fun r w' => r = (F_set s c x v).1 ∧ CN w w' (F_set s c x v).2) := by
  obtain ⟨h0, -, hmi, -, -, -, hC, -, hX⟩ := id hG
  have h6 := h0.2
  refine CI.of (own := RX8) (nm := "set") (lv := [some (.ref (gb g + 0)), some (.int c), some (.int x), some (.int v), none, none]) (by decide) rfl rfl (Nat.le_of_ble_eq_true rfl) rfl (fun Q hQ => ?_)
  have bad : ¬ (isC s c ∧ inR x 1 2 ∧ inR v 0 (if x.toInt = 1 then 59 else 9)) → Q (some (.int (-1000000001))) w := fun h => hQ _ _ ⟨by rw [F_set, if_neg h], by rw [F_set, if_neg h]; exact CN.rf hN⟩
  by_cases hc : isC s c
  · obtain ⟨k, hk, ek⟩ := i_of (n := sN s 0) (x := c) hc.1 hc.2
    subst ek
    have hk6 : k < 6 := by omega
    have ekc : (nI k).toNatClampNeg = k := nI_clamp (by omega)
    obtain ⟨q0, q1, q2⟩ := hN.2.2.1 k hk6
    refine jr_aload_n dX8_set_0 rfl ?_
    refine gfX8_12 1 dX8_set_1 (hw.k rfl) (hw.f rfl) ?_
    refine jr_iload_n dX8_set_4 rfl ?_
    refine jc_Vi (c_hasClock g _ hw 1 NA1 s hN h0 _) lkX8_89 (hw.k rfl) rfl rfl (Nat.le_of_ble_eq_true rfl) (Nat.le_of_ble_eq_true rfl) dX8_set_5 (fun r_5 w_5 h_5 => ?_)
    obtain ⟨rfl, rfl⟩ := h_5
    refine jr_if_ne 14 dX8_set_8 (by decide) (fun c_8 => ?_) (fun c_8 => absurd c_8 (jb_1.mpr hc))
    refine jr_aload_n dX8_set_14 rfl ?_
    refine gfX8_12 1 dX8_set_15 (hw.k rfl) (hw.f rfl) ?_
    refine gfX8_93 2 dX8_set_18 (hw.k rfl) (hw.f rfl) ?_
    refine jr_iload_n dX8_set_21 rfl ?_
    refine jr_aald k (hw.k rfl) (by decide) rfl ⟨hk6, by decide⟩ (by rw [rk1 hw hk6, jrf_s]) dX8_set_22 ?_
    refine jr_astore_4 dX8_set_23 (by decide) rfl ?_
    refine jr_iload_n dX8_set_25 rfl ?_
    refine jr_iconst (1) dX8_set_26 (by decide) ?_
    refine jr_icmp_ne 55 dX8_set_27 (by decide) (fun c_27 => ?_) (fun c_27 => ?_)
    · simp only [lt_i, le_i, eq_i, Int32.reduceToInt] at c_27
      refine jr_iload_n dX8_set_55 rfl ?_
      refine jr_iconst (2) dX8_set_56 (by decide) ?_
      refine jr_icmp_ne 85 dX8_set_57 (by decide) (fun c_57 => ?_) (fun c_57 => ?_)
      · simp only [lt_i, le_i, eq_i, Int32.reduceToInt] at c_57
        refine jr_ldc (-1000000001) ckX8_80 dX8_set_85 ?_
        refine jr_iret rfl dX8_set_87 ?_
        refine bad (fun h => ?_)
        obtain ⟨-, z1, z2⟩ := h
        unfold inR at z1 z2
        by_cases e1 : x.toInt = 1
        · rw [if_pos e1] at z2; omega
        · rw [if_neg e1] at z2; omega
      · simp only [lt_i, le_i, eq_i, Int32.reduceToInt] at c_57
        refine jr_iload_n dX8_set_60 rfl ?_
        refine jr_bipush (10) dX8_set_61 (by decide) ?_
        refine jc_Si (c_wi g _ _ _ 10 rfl) lkX8_76 rfl rfl (Nat.le_of_ble_eq_true rfl) (Nat.le_of_ble_eq_true rfl) dX8_set_63 (fun r_63 w_63 h_63 => ?_)
        obtain ⟨rfl, rfl⟩ := h_63
        refine jr_if_eq 85 dX8_set_66 (by decide) (fun c_66 => ?_) (fun c_66 => ?_)
        · rw [jb_0] at c_66
          refine jr_ldc (-1000000001) ckX8_80 dX8_set_85 ?_
          refine jr_iret rfl dX8_set_87 ?_
          refine bad (fun h => ?_)
          obtain ⟨-, z1, z2⟩ := h
          unfold inR at z1 z2
          by_cases e1 : x.toInt = 1
          · rw [if_pos e1] at z2; omega
          · rw [if_neg e1] at z2; omega
        · rw [jb_1] at c_66
          refine jr_aload dX8_set_69 rfl ?_
          refine gfX8_105 dX8_set_71 (NA1.k hw hk6) ?_
          refine jr_istore_5 dX8_set_74 (by decide) rfl ?_
          refine jr_aload dX8_set_76 rfl ?_
          refine jr_iload_n dX8_set_78 rfl ?_
          refine pfX8_105 dX8_set_79 (NA1.k hw hk6) ?_
          refine jr_iload dX8_set_82 rfl ?_
          refine jr_iret rfl dX8_set_84 ?_
          have hy : isC s (nI k) ∧ inR x 1 2 ∧ inR v 0 (if x.toInt = 1 then 59 else 9) := ⟨hc, by unfold inR; omega, by rw [if_neg (by omega)]; unfold inR; omega⟩
          have exc : x.toNatClampNeg = 2 := by have : x.toNatClampNeg = x.toInt.toNat := rfl; omega
          refine hQ _ _ ⟨?_, ?_⟩
          · rw [F_set, if_pos hy, ekc, exc]; exact q2
          · rw [F_set, if_pos hy, ekc, exc]; exact ⟨hN.clk NA1 hX hk6 (by decide) v, Sm.sR (by unfold scX; omega)⟩
    · simp only [lt_i, le_i, eq_i, Int32.reduceToInt] at c_27
      refine jr_iload_n dX8_set_30 rfl ?_
      refine jr_bipush (60) dX8_set_31 (by decide) ?_
      refine jc_Si (c_wi g _ _ _ 60 rfl) lkX8_76 rfl rfl (Nat.le_of_ble_eq_true rfl) (Nat.le_of_ble_eq_true rfl) dX8_set_33 (fun r_33 w_33 h_33 => ?_)
      obtain ⟨rfl, rfl⟩ := h_33
      refine jr_if_eq 55 dX8_set_36 (by decide) (fun c_36 => ?_) (fun c_36 => ?_)
      · rw [jb_0] at c_36
        refine jr_iload_n dX8_set_55 rfl ?_
        refine jr_iconst (2) dX8_set_56 (by decide) ?_
        refine jr_icmp_ne 85 dX8_set_57 (by decide) (fun c_57 => ?_) (fun c_57 => ?_)
        · simp only [lt_i, le_i, eq_i, Int32.reduceToInt] at c_57
          refine jr_ldc (-1000000001) ckX8_80 dX8_set_85 ?_
          refine jr_iret rfl dX8_set_87 ?_
          refine bad (fun h => ?_)
          obtain ⟨-, z1, z2⟩ := h
          unfold inR at z1 z2
          by_cases e1 : x.toInt = 1
          · rw [if_pos e1] at z2; omega
          · rw [if_neg e1] at z2; omega
        · simp only [lt_i, le_i, eq_i, Int32.reduceToInt] at c_57
          refine jr_iload_n dX8_set_60 rfl ?_
          refine jr_bipush (10) dX8_set_61 (by decide) ?_
          refine jc_Si (c_wi g _ _ _ 10 rfl) lkX8_76 rfl rfl (Nat.le_of_ble_eq_true rfl) (Nat.le_of_ble_eq_true rfl) dX8_set_63 (fun r_63 w_63 h_63 => ?_)
          obtain ⟨rfl, rfl⟩ := h_63
          refine jr_if_eq 85 dX8_set_66 (by decide) (fun c_66 => ?_) (fun c_66 => ?_)
          · rw [jb_0] at c_66
            refine jr_ldc (-1000000001) ckX8_80 dX8_set_85 ?_
            refine jr_iret rfl dX8_set_87 ?_
            refine bad (fun h => ?_)
            obtain ⟨-, z1, z2⟩ := h
            unfold inR at z1 z2
            by_cases e1 : x.toInt = 1
            · rw [if_pos e1] at z2; omega
            · rw [if_neg e1] at z2; omega
          · rw [jb_1] at c_66
            refine jr_aload dX8_set_69 rfl ?_
            refine gfX8_105 dX8_set_71 (NA1.k hw hk6) ?_
            refine jr_istore_5 dX8_set_74 (by decide) rfl ?_
            refine jr_aload dX8_set_76 rfl ?_
            refine jr_iload_n dX8_set_78 rfl ?_
            refine pfX8_105 dX8_set_79 (NA1.k hw hk6) ?_
            refine jr_iload dX8_set_82 rfl ?_
            refine jr_iret rfl dX8_set_84 ?_
            have hy : isC s (nI k) ∧ inR x 1 2 ∧ inR v 0 (if x.toInt = 1 then 59 else 9) := ⟨hc, by unfold inR; omega, by rw [if_neg (by omega)]; unfold inR; omega⟩
            have exc : x.toNatClampNeg = 2 := by have : x.toNatClampNeg = x.toInt.toNat := rfl; omega
            refine hQ _ _ ⟨?_, ?_⟩
            · rw [F_set, if_pos hy, ekc, exc]; exact q2
            · rw [F_set, if_pos hy, ekc, exc]; exact ⟨hN.clk NA1 hX hk6 (by decide) v, Sm.sR (by unfold scX; omega)⟩
      · rw [jb_1] at c_36
        refine jr_aload dX8_set_39 rfl ?_
        refine gfX8_102 dX8_set_41 (NA1.k hw hk6) ?_
        refine jr_istore_5 dX8_set_44 (by decide) rfl ?_
        refine jr_aload dX8_set_46 rfl ?_
        refine jr_iload_n dX8_set_48 rfl ?_
        refine pfX8_102 dX8_set_49 (NA1.k hw hk6) ?_
        refine jr_iload dX8_set_52 rfl ?_
        refine jr_iret rfl dX8_set_54 ?_
        have hy : isC s (nI k) ∧ inR x 1 2 ∧ inR v 0 (if x.toInt = 1 then 59 else 9) := ⟨hc, by unfold inR; omega, by rw [if_pos (by omega)]; unfold inR; omega⟩
        have exc : x.toNatClampNeg = 1 := by have : x.toNatClampNeg = x.toInt.toNat := rfl; omega
        refine hQ _ _ ⟨?_, ?_⟩
        · rw [F_set, if_pos hy, ekc, exc]; exact q1
        · rw [F_set, if_pos hy, ekc, exc]; exact ⟨hN.clk NA1 hX hk6 (by decide) v, Sm.sR (by unfold scX; omega)⟩
  · refine jr_aload_n dX8_set_0 rfl ?_
    refine gfX8_12 1 dX8_set_1 (hw.k rfl) (hw.f rfl) ?_
    refine jr_iload_n dX8_set_4 rfl ?_
    refine jc_Vi (c_hasClock g _ hw 1 NA1 s hN h0 _) lkX8_89 (hw.k rfl) rfl rfl (Nat.le_of_ble_eq_true rfl) (Nat.le_of_ble_eq_true rfl) dX8_set_5 (fun r_5 w_5 h_5 => ?_)
    obtain ⟨rfl, rfl⟩ := h_5
    refine jr_if_ne 14 dX8_set_8 (by decide) (fun c_8 => absurd (jb_f hc) c_8) (fun c_8 => ?_)
    refine jr_ldc (-1000000001) ckX8_80 dX8_set_11 ?_
    refine jr_iret rfl dX8_set_13 ?_
    exact bad (fun h => hc h.1)
theorem p_strokes (g : Cx) (w : Wd) (hw : Wf w) (s : Nat → Int32) (hG : Gd s) (hN : NR w 1 s) (c x : Int32) : CI g yX8_strokes cX8_strokes 3 (some .int) 5 0 0 [.ref (gb g + 0), .int c, .int x] w (fun r w' => r = F_strokes s c x ∧ CN w w' s) := by
  obtain ⟨h0, -, hmi, -, -, -, hC, -, hX⟩ := id hG
  have h6 := h0.2
  refine CI.of (own := RX8) (nm := "strokes") (lv := [some (.ref (gb g + 0)), some (.int c), some (.int x)]) (by decide) rfl rfl (Nat.le_of_ble_eq_true rfl) rfl (fun Q hQ => ?_)
  by_cases hc : isC s c ∧ inR x 0 719
  · obtain ⟨k, hk, ek⟩ := i_of (n := sN s 0) (x := c) hc.1.1 hc.1.2
    have hxr : 0 ≤ x.toInt ∧ x.toInt < 720 := by have := hc.2; unfold inR at this; omega
    obtain ⟨q, hq, eq⟩ := i_of (n := 720) (x := x) hxr.1 hxr.2
    subst ek
    subst eq
    have hk6 : k < 6 := by omega
    have ekc : (nI k).toNatClampNeg = k := nI_clamp (by omega)
    have eqc : (nI q).toNatClampNeg = q := nI_clamp (by omega)
    have hCk := hN.ck NA1 hw hC hk6
    refine jr_aload_n dX8_strokes_0 rfl ?_
    refine gfX8_12 1 dX8_strokes_1 (hw.k rfl) (hw.f rfl) ?_
    refine jr_iload_n dX8_strokes_4 rfl ?_
    refine jc_Vi (c_hasClock g _ hw 1 NA1 s hN h0 _) lkX8_89 (hw.k rfl) rfl rfl (Nat.le_of_ble_eq_true rfl) (Nat.le_of_ble_eq_true rfl) dX8_strokes_5 (fun r_5 w_5 h_5 => ?_)
    obtain ⟨rfl, rfl⟩ := h_5
    refine jr_if_eq 21 dX8_strokes_8 (by decide) (fun c_8 => absurd c_8 (jb_1.mpr hc.1)) (fun c_8 => ?_)
    refine jr_iload_n dX8_strokes_11 rfl ?_
    refine jr_sipush (720) dX8_strokes_12 (by decide) ?_
    refine jc_Si (c_wi g _ _ _ 720 rfl) lkX8_76 rfl rfl (Nat.le_of_ble_eq_true rfl) (Nat.le_of_ble_eq_true rfl) dX8_strokes_15 (fun r_15 w_15 h_15 => ?_)
    obtain ⟨rfl, rfl⟩ := h_15
    refine jr_if_ne 24 dX8_strokes_18 (by decide) (fun c_18 => ?_) (fun c_18 => absurd c_18 (jb_1.mpr hxr))
    refine jr_aload_n dX8_strokes_24 rfl ?_
    refine gfX8_12 1 dX8_strokes_25 (hw.k rfl) (hw.f rfl) ?_
    refine jr_aload_n dX8_strokes_28 rfl ?_
    refine gfX8_12 1 dX8_strokes_29 (hw.k rfl) (hw.f rfl) ?_
    refine gfX8_93 2 dX8_strokes_32 (hw.k rfl) (hw.f rfl) ?_
    refine jr_iload_n dX8_strokes_35 rfl ?_
    refine jr_aald k (hw.k rfl) (by decide) rfl ⟨hk6, by decide⟩ (by rw [rk1 hw hk6, jrf_s]) dX8_strokes_36 ?_
    refine jr_iload_n dX8_strokes_37 rfl ?_
    refine jc_Vi (c_strokesAt g _ hw 1 NA1 s hG hN _ _ _ _ hCk _ hq) lkX8_112 (hw.k rfl) rfl rfl (Nat.le_of_ble_eq_true rfl) (Nat.le_of_ble_eq_true rfl) dX8_strokes_38 (fun r_38 w_38 h_38 => ?_)
    obtain ⟨rfl, hS2⟩ := h_38
    refine jr_iret rfl dX8_strokes_41 ?_
    exact hQ _ _ ⟨by rw [F_strokes, if_pos hc, ekc, eqc]; rfl, CN.k hN hS2⟩
  · refine jr_aload_n dX8_strokes_0 rfl ?_
    refine gfX8_12 1 dX8_strokes_1 (hw.k rfl) (hw.f rfl) ?_
    refine jr_iload_n dX8_strokes_4 rfl ?_
    refine jc_Vi (c_hasClock g _ hw 1 NA1 s hN h0 _) lkX8_89 (hw.k rfl) rfl rfl (Nat.le_of_ble_eq_true rfl) (Nat.le_of_ble_eq_true rfl) dX8_strokes_5 (fun r_5 w_5 h_5 => ?_)
    obtain ⟨rfl, rfl⟩ := h_5
    refine jr_if_eq 21 dX8_strokes_8 (by decide) (fun c_8 => ?_) (fun c_8 => ?_)
    · rw [jb_0] at c_8
      refine jr_ldc (-1000000001) ckX8_80 dX8_strokes_21 ?_
      refine jr_iret rfl dX8_strokes_23 ?_
      exact hQ _ _ ⟨by rw [F_strokes, if_neg hc], CN.rf hN⟩
    · rw [jb_1] at c_8
      refine jr_iload_n dX8_strokes_11 rfl ?_
      refine jr_sipush (720) dX8_strokes_12 (by decide) ?_
      refine jc_Si (c_wi g _ _ _ 720 rfl) lkX8_76 rfl rfl (Nat.le_of_ble_eq_true rfl) (Nat.le_of_ble_eq_true rfl) dX8_strokes_15 (fun r_15 w_15 h_15 => ?_)
      obtain ⟨rfl, rfl⟩ := h_15
      refine jr_if_ne 24 dX8_strokes_18 (by decide) (fun c_18 => ?_) (fun c_18 => ?_)
      · rw [jb_1] at c_18
        exfalso; exact hc ⟨c_8, by unfold inR; omega⟩
      · rw [jb_0] at c_18
        refine jr_ldc (-1000000001) ckX8_80 dX8_strokes_21 ?_
        refine jr_iret rfl dX8_strokes_23 ?_
        exact hQ _ _ ⟨by rw [F_strokes, if_neg hc], CN.rf hN⟩
theorem p_total (g : Cx) (w : Wd) (hw : Wf w) (s : Nat → Int32) (hG : Gd s) (hN : NR w 1 s) (x : Int32) : CI g yX8_total cX8_total 2 (some .int) 6 0 0 [.ref (gb g + 0), .int x] w (fun r w' => r = F_total s x ∧ CN w w' s) := by
  refine CI.of (own := RX8) (nm := "total") (lv := [some (.ref (gb g + 0)), some (.int x)]) (by decide) rfl rfl (Nat.le_of_ble_eq_true rfl) rfl (fun Q hQ => ?_)
  by_cases hc : inR x 0 719
  · have hxr : 0 ≤ x.toInt ∧ x.toInt < 720 := by have := hc; unfold inR at this; omega
    obtain ⟨q, hq, eq⟩ := i_of (n := 720) (x := x) hxr.1 hxr.2
    subst eq
    have eqc : (nI q).toNatClampNeg = q := nI_clamp (by omega)
    refine jr_iload_n dX8_total_0 rfl ?_
    refine jr_sipush (720) dX8_total_1 (by decide) ?_
    refine jc_Si (c_wi g _ _ _ 720 rfl) lkX8_76 rfl rfl (Nat.le_of_ble_eq_true rfl) (Nat.le_of_ble_eq_true rfl) dX8_total_4 (fun r_4 w_4 h_4 => ?_)
    obtain ⟨rfl, rfl⟩ := h_4
    refine jr_if_eq 21 dX8_total_7 (by decide) (fun c_7 => absurd c_7 (jb_1.mpr hxr)) (fun c_7 => ?_)
    refine jr_aload_n dX8_total_10 rfl ?_
    refine gfX8_12 1 dX8_total_11 (hw.k rfl) (hw.f rfl) ?_
    refine jr_iload_n dX8_total_14 rfl ?_
    refine jc_Vi (c_totalAt g _ hw 1 NA1 s hG hN q hq) lkX8_127 (hw.k rfl) rfl rfl (Nat.le_of_ble_eq_true rfl) (Nat.le_of_ble_eq_true rfl) dX8_total_15 (fun r_15 w_15 h_15 => ?_)
    obtain ⟨rfl, hS2⟩ := h_15
    refine jr_goto 23 dX8_total_18 (by decide) ?_
    refine jr_iret rfl dX8_total_23 ?_
    exact hQ _ _ ⟨by rw [F_total, if_pos hc, eqc], CN.k hN hS2⟩
  · refine jr_iload_n dX8_total_0 rfl ?_
    refine jr_sipush (720) dX8_total_1 (by decide) ?_
    refine jc_Si (c_wi g _ _ _ 720 rfl) lkX8_76 rfl rfl (Nat.le_of_ble_eq_true rfl) (Nat.le_of_ble_eq_true rfl) dX8_total_4 (fun r_4 w_4 h_4 => ?_)
    obtain ⟨rfl, rfl⟩ := h_4
    refine jr_if_eq 21 dX8_total_7 (by decide) (fun c_7 => ?_) (fun c_7 => ?_)
    · rw [jb_0] at c_7
      refine jr_ldc (-1000000001) ckX8_80 dX8_total_21 ?_
      refine jr_iret rfl dX8_total_23 ?_
      exact hQ _ _ ⟨by rw [F_total, if_neg hc], CN.rf hN⟩
    · rw [jb_1] at c_7
      exfalso; exact hc (by unfold inR; omega)
theorem p_ear (g : Cx) (w : Wd) (hw : Wf w) (s : Nat → Int32) (hG : Gd s) (hN : NR w 1 s) (x v : Int32) : CI g yX8_ear cX8_ear 4 (some .int) 2 0 0 [.ref (gb g + 0), .int x, .int v] w (fun r w' => r = (F_ear s x v).1 ∧ CN w w' (F_ear s x v).2) := by
  obtain ⟨h0, -, hmi, -, -, -, hC, -, hX⟩ := id hG
  refine CI.of (own := RX8) (nm := "ear") (lv := [some (.ref (gb g + 0)), some (.int x), some (.int v), none]) (by decide) rfl rfl (Nat.le_of_ble_eq_true rfl) rfl (fun Q hQ => ?_)
  by_cases hc : inR x 0 1 ∧ inR v 0 100
  · have K20 : RR g RX8 cX8_ear 4 (some .int) "ear" 2 0 0 0 0 20 [some (.ref (gb g + 0)), some (.int x), some (.int v), none] [] w Q := by
      obtain ⟨hc1, hc2⟩ := hc
      unfold inR at hc1
      by_cases e : x.toInt = 0
      · have ex : x = 0 := by rw [eq_i]; exact e
        subst ex
        refine jr_iload_n dX8_ear_20 rfl ?_
        refine jr_if_ne 34 dX8_ear_21 (by decide) (fun c_21 => absurd (by decide) c_21) (fun c_21 => ?_)
        refine jr_aload_n dX8_ear_24 rfl ?_
        refine gfX8_12 1 dX8_ear_25 (hw.k rfl) (hw.f rfl) ?_
        refine gfX8_131 dX8_ear_28 (hw.k rfl) ?_
        refine jr_goto 41 dX8_ear_31 (by decide) ?_
        refine jr_istore_3 dX8_ear_41 (by decide) rfl ?_
        refine jr_iload_n dX8_ear_42 rfl ?_
        refine jr_if_ne 57 dX8_ear_43 (by decide) (fun c_43 => absurd (by decide) c_43) (fun c_43 => ?_)
        refine jr_aload_n dX8_ear_46 rfl ?_
        refine gfX8_12 1 dX8_ear_47 (hw.k rfl) (hw.f rfl) ?_
        refine jr_iload_n dX8_ear_50 rfl ?_
        refine pfX8_131 dX8_ear_51 (hw.k rfl) ?_
        refine jr_goto 65 dX8_ear_54 (by decide) ?_
        refine jr_iload_n dX8_ear_65 rfl ?_
        refine jr_iret rfl dX8_ear_66 ?_
        refine hQ _ _ ⟨?_, ?_⟩
        · rw [F_ear, if_pos ⟨by unfold inR; omega, hc2⟩]; exact hN.1.2.1
        · rw [F_ear, if_pos ⟨by unfold inR; omega, hc2⟩]; exact ⟨hN.fld NA1 hX (Or.inl ⟨rfl, rfl⟩) v, Sm.sR (by unfold scX; omega)⟩
      · have ex : x = 1 := by rw [eq_i]; show x.toInt = 1; omega
        subst ex
        refine jr_iload_n dX8_ear_20 rfl ?_
        refine jr_if_ne 34 dX8_ear_21 (by decide) (fun c_21 => ?_) (fun c_21 => absurd c_21 (by decide))
        refine jr_aload_n dX8_ear_34 rfl ?_
        refine gfX8_12 1 dX8_ear_35 (hw.k rfl) (hw.f rfl) ?_
        refine gfX8_134 dX8_ear_38 (hw.k rfl) ?_
        refine jr_istore_3 dX8_ear_41 (by decide) rfl ?_
        refine jr_iload_n dX8_ear_42 rfl ?_
        refine jr_if_ne 57 dX8_ear_43 (by decide) (fun c_43 => ?_) (fun c_43 => absurd c_43 (by decide))
        refine jr_aload_n dX8_ear_57 rfl ?_
        refine gfX8_12 1 dX8_ear_58 (hw.k rfl) (hw.f rfl) ?_
        refine jr_iload_n dX8_ear_61 rfl ?_
        refine pfX8_134 dX8_ear_62 (hw.k rfl) ?_
        refine jr_iload_n dX8_ear_65 rfl ?_
        refine jr_iret rfl dX8_ear_66 ?_
        refine hQ _ _ ⟨?_, ?_⟩
        · rw [F_ear, if_pos ⟨by unfold inR; omega, hc2⟩]; exact hN.1.2.2.1
        · rw [F_ear, if_pos ⟨by unfold inR; omega, hc2⟩]; exact ⟨hN.fld NA1 hX (Or.inr (Or.inl ⟨rfl, rfl⟩)) v, Sm.sR (by unfold scX; omega)⟩
    refine jr_iload_n dX8_ear_0 rfl ?_
    refine jr_iconst (2) dX8_ear_1 (by decide) ?_
    refine jc_Si (c_wi g _ _ _ 2 rfl) lkX8_76 rfl rfl (Nat.le_of_ble_eq_true rfl) (Nat.le_of_ble_eq_true rfl) dX8_ear_2 (fun r_2 w_2 h_2 => ?_)
    obtain ⟨rfl, rfl⟩ := h_2
    refine jr_if_eq 17 dX8_ear_5 (by decide) (fun c_5 => ?_) (fun c_5 => ?_)
    · rw [jb_0] at c_5
      exfalso; unfold inR at hc; omega
    · rw [jb_1] at c_5
      refine jr_iload_n dX8_ear_8 rfl ?_
      refine jr_bipush (101) dX8_ear_9 (by decide) ?_
      refine jc_Si (c_wi g _ _ _ 101 rfl) lkX8_76 rfl rfl (Nat.le_of_ble_eq_true rfl) (Nat.le_of_ble_eq_true rfl) dX8_ear_11 (fun r_11 w_11 h_11 => ?_)
      obtain ⟨rfl, rfl⟩ := h_11
      refine jr_if_ne 20 dX8_ear_14 (by decide) (fun c_14 => ?_) (fun c_14 => ?_)
      · rw [jb_1] at c_14
        exact K20
      · rw [jb_0] at c_14
        exfalso; unfold inR at hc; omega
  · refine jr_iload_n dX8_ear_0 rfl ?_
    refine jr_iconst (2) dX8_ear_1 (by decide) ?_
    refine jc_Si (c_wi g _ _ _ 2 rfl) lkX8_76 rfl rfl (Nat.le_of_ble_eq_true rfl) (Nat.le_of_ble_eq_true rfl) dX8_ear_2 (fun r_2 w_2 h_2 => ?_)
    obtain ⟨rfl, rfl⟩ := h_2
    refine jr_if_eq 17 dX8_ear_5 (by decide) (fun c_5 => ?_) (fun c_5 => ?_)
    · rw [jb_0] at c_5
      refine jr_ldc (-1000000001) ckX8_80 dX8_ear_17 ?_
      refine jr_iret rfl dX8_ear_19 ?_
      exact hQ _ _ ⟨by rw [F_ear, if_neg hc], by rw [F_ear, if_neg hc]; exact CN.rf hN⟩
    · rw [jb_1] at c_5
      refine jr_iload_n dX8_ear_8 rfl ?_
      refine jr_bipush (101) dX8_ear_9 (by decide) ?_
      refine jc_Si (c_wi g _ _ _ 101 rfl) lkX8_76 rfl rfl (Nat.le_of_ble_eq_true rfl) (Nat.le_of_ble_eq_true rfl) dX8_ear_11 (fun r_11 w_11 h_11 => ?_)
      obtain ⟨rfl, rfl⟩ := h_11
      refine jr_if_ne 20 dX8_ear_14 (by decide) (fun c_14 => ?_) (fun c_14 => ?_)
      · rw [jb_1] at c_14
        exfalso; exact hc (by unfold inR; omega)
      · rw [jb_0] at c_14
        refine jr_ldc (-1000000001) ckX8_80 dX8_ear_17 ?_
        refine jr_iret rfl dX8_ear_19 ?_
        exact hQ _ _ ⟨by rw [F_ear, if_neg hc], by rw [F_ear, if_neg hc]; exact CN.rf hN⟩
theorem p_seed (g : Cx) (w : Wd) (hw : Wf w) (s : Nat → Int32) (hG : Gd s) (hN : NR w 1 s) (v : Int32) : CI g yX8_seed cX8_seed 3 (some .int) 1 0 0 [.ref (gb g + 0), .int v] w (fun r w' => r = s 9 ∧ CN w w' (upd s 9 v)) := by
  obtain ⟨h0, -, hmi, -, -, -, hC, -, hX⟩ := id hG
  refine CI.of (own := RX8) (nm := "seed") (lv := [some (.ref (gb g + 0)), some (.int v), none]) (by decide) rfl rfl (Nat.le_of_ble_eq_true rfl) rfl (fun Q hQ => ?_)
  refine jr_aload_n dX8_seed_0 rfl ?_
  refine gfX8_12 1 dX8_seed_1 (hw.k rfl) (hw.f rfl) ?_
  refine gfX8_146 dX8_seed_4 (hw.k rfl) ?_
  refine jr_istore_2 dX8_seed_7 (by decide) rfl ?_
  refine jr_aload_n dX8_seed_8 rfl ?_
  refine gfX8_12 1 dX8_seed_9 (hw.k rfl) (hw.f rfl) ?_
  refine jr_iload_n dX8_seed_12 rfl ?_
  refine pfX8_146 dX8_seed_13 (hw.k rfl) ?_
  refine jr_iload_n dX8_seed_16 rfl ?_
  refine jr_iret rfl dX8_seed_17 ?_
  exact hQ _ _ ⟨hN.1.2.2.2.2.2.2.2.1, ⟨hN.fld NA1 hX (Or.inr (Or.inr ⟨rfl, rfl⟩)) v, Sm.sR (by unfold scX; omega)⟩⟩
theorem p_bed (g : Cx) (w : Wd) (hw : Wf w) (s : Nat → Int32) (hN : NR w 1 s) (x : Int32) : CI g yX8_bed cX8_bed 2 (some .int) 2 0 0 [.ref (gb g + 0), .int x] w (fun r w' => r = F_bed s x ∧ CN w w' s) := by
  refine CI.of (own := RX8) (nm := "bed") (lv := [some (.ref (gb g + 0)), some (.int x)]) (by decide) rfl rfl (Nat.le_of_ble_eq_true rfl) rfl (fun Q hQ => ?_)
  by_cases h3 : x.toInt = 3
  · have ex : x = 3 := by rw [eq_i]; exact h3
    subst ex
    refine jr_iload_n dX8_bed_0 rfl ?_
    refine jr_iconst (3) dX8_bed_1 (by decide) ?_
    refine jr_icmp_ne 15 dX8_bed_2 (by decide) (fun c_2 => absurd rfl c_2) (fun c_2 => ?_)
    refine jr_aload_n dX8_bed_5 rfl ?_
    refine gfX8_12 1 dX8_bed_6 (hw.k rfl) (hw.f rfl) ?_
    refine gfX8_159 dX8_bed_9 (hw.k rfl) ?_
    refine jr_goto 23 dX8_bed_12 (by decide) ?_
    refine jr_iret rfl dX8_bed_23 ?_
    exact hQ _ _ ⟨by rw [F_bed, if_pos (by unfold inR; omega), if_neg (by omega)]; exact hN.1.2.2.2.2.2.2.2.2.1, CN.rf hN⟩
  · refine jr_iload_n dX8_bed_0 rfl ?_
    refine jr_iconst (3) dX8_bed_1 (by decide) ?_
    refine jr_icmp_ne 15 dX8_bed_2 (by decide) (fun c_2 => ?_) (fun c_2 => absurd c_2 (fun e => h3 (by rw [e]; rfl)))
    refine jr_aload_n dX8_bed_15 rfl ?_
    refine gfX8_12 1 dX8_bed_16 (hw.k rfl) (hw.f rfl) ?_
    refine jr_iload_n dX8_bed_19 rfl ?_
    refine jc_Vi (c_bedCount g _ hw 1 NA1 s hN x) lkX8_162 (hw.k rfl) rfl rfl (Nat.le_of_ble_eq_true rfl) (Nat.le_of_ble_eq_true rfl) dX8_bed_20 (fun r_20 w_20 h_20 => ?_)
    obtain ⟨rfl, rfl⟩ := h_20
    refine jr_iret rfl dX8_bed_23 ?_
    refine hQ _ _ ⟨?_, CN.rf hN⟩
    unfold F_bed inR
    by_cases c0 : x.toInt = 0
    · rw [if_pos c0, if_pos (by omega), if_pos (by omega), show x.toNatClampNeg = 0 by have : x.toNatClampNeg = x.toInt.toNat := rfl; omega]
    · rw [if_neg c0]
      by_cases c1 : x.toInt = 1
      · rw [if_pos c1, if_pos (by omega), if_pos (by omega), show x.toNatClampNeg = 1 by have : x.toNatClampNeg = x.toInt.toNat := rfl; omega]
      · rw [if_neg c1]
        by_cases c2 : x.toInt = 2
        · rw [if_pos c2, if_pos (by omega), if_pos (by omega), show x.toNatClampNeg = 2 by have : x.toNatClampNeg = x.toInt.toNat := rfl; omega]
        · rw [if_neg c2, if_neg (by omega)]
theorem p_note (g : Cx) (w : Wd) (hw : Wf w) (s : Nat → Int32) (hN : NR w 1 s) (x : Int32) : CI g yX8_note cX8_note 2 (some .int) 2 0 0 [.ref (gb g + 0), .int x] w (fun r w' => r = F_note s x ∧ CN w w' s) := by
  refine CI.of (own := RX8) (nm := "note") (lv := [some (.ref (gb g + 0)), some (.int x)]) (by decide) rfl rfl (Nat.le_of_ble_eq_true rfl) rfl (fun Q hQ => ?_)
  by_cases hc : inR x 0 11
  · have hxr : 0 ≤ x.toInt ∧ x.toInt < 12 := by have := hc; unfold inR at this; omega
    obtain ⟨q, hq, eq⟩ := i_of (n := 12) (x := x) hxr.1 hxr.2
    subst eq
    have eqc : (nI q).toNatClampNeg = q := nI_clamp (by omega)
    refine jr_iload_n dX8_note_0 rfl ?_
    refine jr_bipush (12) dX8_note_1 (by decide) ?_
    refine jc_Si (c_wi g _ _ _ 12 rfl) lkX8_76 rfl rfl (Nat.le_of_ble_eq_true rfl) (Nat.le_of_ble_eq_true rfl) dX8_note_3 (fun r_3 w_3 h_3 => ?_)
    obtain ⟨rfl, rfl⟩ := h_3
    refine jr_if_ne 12 dX8_note_6 (by decide) (fun c_6 => ?_) (fun c_6 => absurd c_6 (jb_1.mpr hxr))
    refine jr_iload_n dX8_note_12 rfl ?_
    refine jr_aload_n dX8_note_13 rfl ?_
    refine gfX8_12 1 dX8_note_14 (hw.k rfl) (hw.f rfl) ?_
    refine gfX8_159 dX8_note_17 (hw.k rfl) ?_
    rw [hN.1.2.2.2.2.2.2.2.2.1]
    refine jr_icmp_ge 35 dX8_note_20 (by decide) (fun c_20 => ?_) (fun c_20 => ?_)
    · simp only [lt_i, le_i, eq_i, Int32.reduceToInt] at c_20
      refine jr_ldc (-1000000005) ckX8_168 dX8_note_35 ?_
      refine jr_iret rfl dX8_note_37 ?_
      refine hQ _ _ ⟨?_, CN.rf hN⟩
      rw [F_note, if_pos hc, eqc]
      first | (rw [if_pos (by omega)]; exact hN.2.1 q hq) | rw [if_neg (by omega)]
    · simp only [lt_i, le_i, eq_i, Int32.reduceToInt] at c_20
      refine jr_aload_n dX8_note_23 rfl ?_
      refine gfX8_12 1 dX8_note_24 (hw.k rfl) (hw.f rfl) ?_
      refine gfX8_165 3 dX8_note_27 (hw.k rfl) (hw.f rfl) ?_
      refine jr_iload_n dX8_note_30 rfl ?_
      refine jr_iald q (hw.k rfl) rfl ⟨hq, by decide⟩ dX8_note_31 ?_
      refine jr_goto 37 dX8_note_32 (by decide) ?_
      refine jr_iret rfl dX8_note_37 ?_
      refine hQ _ _ ⟨?_, CN.rf hN⟩
      rw [F_note, if_pos hc, eqc]
      first | (rw [if_pos (by omega)]; exact hN.2.1 q hq) | rw [if_neg (by omega)]
  · refine jr_iload_n dX8_note_0 rfl ?_
    refine jr_bipush (12) dX8_note_1 (by decide) ?_
    refine jc_Si (c_wi g _ _ _ 12 rfl) lkX8_76 rfl rfl (Nat.le_of_ble_eq_true rfl) (Nat.le_of_ble_eq_true rfl) dX8_note_3 (fun r_3 w_3 h_3 => ?_)
    obtain ⟨rfl, rfl⟩ := h_3
    refine jr_if_ne 12 dX8_note_6 (by decide) (fun c_6 => ?_) (fun c_6 => ?_)
    · rw [jb_1] at c_6
      exfalso; exact hc (by unfold inR; omega)
    · rw [jb_0] at c_6
      refine jr_ldc (-1000000001) ckX8_80 dX8_note_9 ?_
      refine jr_iret rfl dX8_note_11 ?_
      exact hQ _ _ ⟨by rw [F_note, if_neg hc], CN.rf hN⟩
