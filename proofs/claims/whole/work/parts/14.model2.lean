-- the reference: strokes of a clock, totals
def scM : Nat → Prop := fun i => i = 93 ∨ i = 94
theorem scM_n {i : Nat} (h : i < 93) : ¬ scM i := fun e => by rcases e with e | e <;> omega
theorem ck_at {s : Nat → Int32} (h : ClkOk s) {k j : Nat} (hk : k < 6) (hj : j < 3) : s (10 + 3 * k + j) = nI (sN s (10 + 3 * k + j)) := by
  obtain ⟨h0, h1, h2⟩ := h k hk
  have hj2 : j = 0 ∨ j = 1 ∨ j = 2 := by omega
  rcases hj2 with rfl | rfl | rfl
  · exact h0.1
  · exact h1.1
  · exact h2.1
theorem c_atHour (g : Cx) (w : Wd) (hw : Wf w) (s : Nat → Int32) (hs : wI w 79 = s) (hC : ClkOk s) (k h : Nat) (hk : k < 6) (hh : h ≤ 12) : CI g yX9_atHour cX9_atHour 3 (some .int) 2 0 0 [.ref (gb g + 78), .int (nI k), .int (nI h)] w (fun r w' => r = nI (ahF (sN s (10 + 3 * k + 0)) h) ∧ w = w') := by
  refine CI.of (own := RX9) (nm := "atHour") (lv := [some (.ref (gb g + 78)), some (.int (nI k)), some (.int (nI h))]) (by decide) rfl rfl (Nat.le_of_ble_eq_true rfl) rfl (fun Q hQ => ?_)
  have hkd := (hC k hk).1
  have e1 : (nI (sN s (10 + 3 * k + 0))).toInt = (sN s (10 + 3 * k + 0) : Int) := i_nI (by have := hkd.2; omega)
  refine jr_aload_n dX9_atHour_0 rfl ?_
  refine jr_iload_n dX9_atHour_1 rfl ?_
  refine jr_iconst (0) dX9_atHour_2 (by decide) ?_
  refine jc_Vi (c_of g _ hw k 0 hk (by decide)) lkX9_88 (hw.k rfl) rfl rfl (Nat.le_of_ble_eq_true rfl) (Nat.le_of_ble_eq_true rfl) dX9_atHour_3 (fun r_3 w_3 h_3 => ?_)
  obtain ⟨rfl, rfl⟩ := h_3
  rw [hs, hkd.1]
  refine jr_iconst (3) dX9_atHour_6 (by decide) ?_
  refine jr_icmp_ne 16 dX9_atHour_7 (by decide) (fun c_7 => ?_) (fun c_7 => ?_)
  · simp only [lt_i, le_i, eq_i, Int32.reduceToInt] at c_7
    refine jr_aload_n dX9_atHour_16 rfl ?_
    refine jr_iload_n dX9_atHour_17 rfl ?_
    refine jr_iconst (0) dX9_atHour_18 (by decide) ?_
    refine jc_Vi (c_of g _ hw k 0 hk (by decide)) lkX9_88 (hw.k rfl) rfl rfl (Nat.le_of_ble_eq_true rfl) (Nat.le_of_ble_eq_true rfl) dX9_atHour_19 (fun r_19 w_19 h_19 => ?_)
    obtain ⟨rfl, rfl⟩ := h_19
    rw [hs, hkd.1]
    refine jr_iconst (4) dX9_atHour_22 (by decide) ?_
    refine jr_icmp_ne 36 dX9_atHour_23 (by decide) (fun c_23 => ?_) (fun c_23 => ?_)
    · simp only [lt_i, le_i, eq_i, Int32.reduceToInt] at c_23
      refine jr_iload_n dX9_atHour_36 rfl ?_
      refine jr_iret rfl dX9_atHour_37 ?_
      refine hQ _ _ ⟨?_, rfl⟩
      first | rw [ahF, if_pos (by omega), jlit 4, nI_add] | (rw [ahF, if_neg (by omega), if_pos (by omega), jlit 5, pk_rem (by omega) (by decide) (by decide), pk_div (by omega) (by decide) (by decide), nI_add]; done) | rw [ahF, if_neg (by omega), if_neg (by omega)]
    · simp only [lt_i, le_i, eq_i, Int32.reduceToInt] at c_23
      refine jr_iload_n dX9_atHour_26 rfl ?_
      refine jr_iconst (5) dX9_atHour_27 (by decide) ?_
      refine jr_idiv dX9_atHour_28 (by decide) ?_
      refine jr_iload_n dX9_atHour_29 rfl ?_
      refine jr_iconst (5) dX9_atHour_30 (by decide) ?_
      refine jr_irem dX9_atHour_31 (by decide) ?_
      refine jr_iadd dX9_atHour_32 ?_
      refine jr_goto 37 dX9_atHour_33 (by decide) ?_
      refine jr_iret rfl dX9_atHour_37 ?_
      refine hQ _ _ ⟨?_, rfl⟩
      first | rw [ahF, if_pos (by omega), jlit 4, nI_add] | (rw [ahF, if_neg (by omega), if_pos (by omega), jlit 5, pk_rem (by omega) (by decide) (by decide), pk_div (by omega) (by decide) (by decide), nI_add]; done) | rw [ahF, if_neg (by omega), if_neg (by omega)]
  · simp only [lt_i, le_i, eq_i, Int32.reduceToInt] at c_7
    refine jr_iload_n dX9_atHour_10 rfl ?_
    refine jr_iconst (4) dX9_atHour_11 (by decide) ?_
    refine jr_iadd dX9_atHour_12 ?_
    refine jr_goto 37 dX9_atHour_13 (by decide) ?_
    refine jr_iret rfl dX9_atHour_37 ?_
    refine hQ _ _ ⟨?_, rfl⟩
    first | rw [ahF, if_pos (by omega), jlit 4, nI_add] | (rw [ahF, if_neg (by omega), if_pos (by omega), jlit 5, pk_rem (by omega) (by decide) (by decide), pk_div (by omega) (by decide) (by decide), nI_add]; done) | rw [ahF, if_neg (by omega), if_neg (by omega)]
theorem c_again (g : Cx) (w : Wd) (hw : Wf w) (s : Nat → Int32) (hs : wI w 79 = s) (hG : Gd s) (k h : Nat) (hk : k < 6) : CI g yX9_again cX9_again 5 (some .int) 3 0 0 [.ref (gb g + 78), .int (nI k), .int (nI h)] w (fun r w' => r = nI (agW s (sN s (10 + 3 * k + 1)) (sN s (10 + 3 * k + 2)) h) ∧ Sm scM w w') := by
  obtain ⟨-, hT, -, -, -, -, hC, -, hX⟩ := id hG
  refine CI.of (own := RX9) (nm := "again") (lv := [some (.ref (gb g + 78)), some (.int (nI k)), some (.int (nI h)), none, none]) (by decide) rfl rfl (Nat.le_of_ble_eq_true rfl) rfl (fun Q hQ => ?_)
  have hn : sN s 1 ≤ 14 := hT.2
  rcases cnt_rng s 0 (sN s 1) (by omega) with e | ⟨t, ht, e, hkey⟩
  · refine jr_aload_n dX9_again_0 rfl ?_
    refine jr_iconst (0) dX9_again_1 (by decide) ?_
    refine jc_Vi (c_counts g _ hw (sN s 1) hn (by rw [hs]; exact hT.1) _) lkX9_92 (hw.k rfl) rfl rfl (Nat.le_of_ble_eq_true rfl) (Nat.le_of_ble_eq_true rfl) dX9_again_2 (fun r_2 w_2 h_2 => ?_)
    obtain ⟨rfl, rfl⟩ := h_2
    rw [hs, e]
    refine jr_istore_3 dX9_again_5 (by decide) rfl ?_
    refine jr_iload_n dX9_again_6 rfl ?_
    refine jr_if_ge 12 dX9_again_7 (by decide) (fun c_7 => absurd c_7 (by decide)) (fun c_7 => ?_)
    refine jr_iconst (2) dX9_again_10 (by decide) ?_
    refine jr_iret rfl dX9_again_11 ?_
    exact hQ _ _ ⟨by rw [agW, if_pos (by rw [e]; decide)]; rfl, Sm.rf⟩
  · have hTx := hX t ht
    have h0 : sN s (40 + 200 * t) = 0 := sN_of hkey (by decide)
    refine jr_aload_n dX9_again_0 rfl ?_
    refine jr_iconst (0) dX9_again_1 (by decide) ?_
    refine jc_Vi (c_counts g _ hw (sN s 1) hn (by rw [hs]; exact hT.1) _) lkX9_92 (hw.k rfl) rfl rfl (Nat.le_of_ble_eq_true rfl) (Nat.le_of_ble_eq_true rfl) dX9_again_2 (fun r_2 w_2 h_2 => ?_)
    obtain ⟨rfl, rfl⟩ := h_2
    rw [hs, e]
    refine jr_istore_3 dX9_again_5 (by decide) rfl ?_
    refine jr_iload_n dX9_again_6 rfl ?_
    refine jr_if_ge 12 dX9_again_7 (by decide) (fun c_7 => ?_) (fun c_7 => absurd (nI_pos' (by omega)) c_7)
    refine jr_aload_n dX9_again_12 rfl ?_
    refine gfX9_52 93 dX9_again_13 (hw.k rfl) (hw.f rfl) ?_
    refine jr_bipush (111) dX9_again_16 (by decide) ?_
    refine jr_aload_n dX9_again_18 rfl ?_
    refine jr_iload_n dX9_again_19 rfl ?_
    refine jr_iconst (1) dX9_again_20 (by decide) ?_
    refine jc_Vi (c_of g _ hw k 1 hk (by decide)) lkX9_88 (hw.k rfl) rfl rfl (Nat.le_of_ble_eq_true rfl) (Nat.le_of_ble_eq_true rfl) dX9_again_21 (fun r_21 w_21 h_21 => ?_)
    obtain ⟨rfl, rfl⟩ := h_21
    refine jr_iast 111 (hw.k rfl) rfl (by decide) dX9_again_24 ?_
    refine jr_aload_n dX9_again_25 rfl ?_
    refine gfX9_52 93 dX9_again_26 (hw.k rfl) (hw.f rfl) ?_
    refine jr_bipush (116) dX9_again_29 (by decide) ?_
    refine jr_aload_n dX9_again_31 rfl ?_
    refine jr_iload_n dX9_again_32 rfl ?_
    refine jr_iconst (2) dX9_again_33 (by decide) ?_
    refine jc_Vi (c_of g _ (by exact hw) k 2 hk (by decide)) lkX9_88 (hw.k rfl) rfl rfl (Nat.le_of_ble_eq_true rfl) (Nat.le_of_ble_eq_true rfl) dX9_again_34 (fun r_34 w_34 h_34 => ?_)
    obtain ⟨rfl, rfl⟩ := h_34
    refine jr_iast 116 (hw.k rfl) rfl (by decide) dX9_again_37 ?_
    refine jr_aload_n dX9_again_38 rfl ?_
    refine gfX9_52 93 dX9_again_39 (hw.k rfl) (hw.f rfl) ?_
    refine jr_bipush (104) dX9_again_42 (by decide) ?_
    refine jr_iload_n dX9_again_44 rfl ?_
    refine jr_iast 104 (hw.k rfl) rfl (by decide) dX9_again_45 ?_
    refine jr_aload_n dX9_again_46 rfl ?_
    refine jr_iload_n dX9_again_47 rfl ?_
    refine jc_Vi (c_worked g _ (by exact hw) s (by simp only [wI_sR]; exact hs) t (by omega) hTx) lkX9_96 (hw.k rfl) rfl rfl (Nat.le_of_ble_eq_true rfl) (Nat.le_of_ble_eq_true rfl) dX9_again_48 (fun r_48 w_48 h_48 => ?_)
    obtain ⟨rfl, hS⟩ := h_48
    refine jr_istore_4 dX9_again_51 (by decide) rfl ?_
    have hv : evF s t (fun v => wI (sR (sR (sR w 93 (upd (wI w 93) 111 (wI w 79 (10 + 3 * k + 1)))) 93 (upd (wI (sR w 93 (upd (wI w 93) 111 (wI w 79 (10 + 3 * k + 1)))) 93) 116 (wI (sR w 93 (upd (wI w 93) 111 (wI w 79 (10 + 3 * k + 1)))) 79 (10 + 3 * k + 2)))) 93 (upd (wI (sR (sR w 93 (upd (wI w 93) 111 (wI w 79 (10 + 3 * k + 1)))) 93 (upd (wI (sR w 93 (upd (wI w 93) 111 (wI w 79 (10 + 3 * k + 1)))) 93) 116 (wI (sR w 93 (upd (wI w 93) 111 (wI w 79 (10 + 3 * k + 1)))) 79 (10 + 3 * k + 2)))) 93) 104 (nI h))) 93 v.toNatClampNeg) = evF s t (nmA (nI (sN s (10 + 3 * k + 1))) (nI (sN s (10 + 3 * k + 2))) (nI h)) := by
      refine ev_congr hTx (fun v hv => ?_)
      rw [h0] at hv
      simp only [wI_sR_s, wI_sR_n _ (show 79 ≠ 93 by decide), hs, ck_at hC hk (show 1 < 3 by decide), ck_at hC hk (show 2 < 3 by decide)]
      rcases hv with ⟨-, rfl | rfl | rfl⟩ | ⟨h9, -⟩ | ⟨h9, -⟩
      · rfl
      · rfl
      · rfl
      · cases h9
      · cases h9
    rw [hv]
    have hag : agW s (sN s (10 + 3 * k + 1)) (sN s (10 + 3 * k + 2)) h = clipF (evF s t (nmA (nI (sN s (10 + 3 * k + 1))) (nI (sN s (10 + 3 * k + 2))) (nI h))) := by
      rw [agW, if_neg (by rw [e]; have := i_nI (n := t) (by omega); omega), e, nI_clamp (by omega)]
    have hS2 : Sm scM w w_48 := (((Sm.sR (S := scM) (Or.inl rfl)).tr (Sm.sR (Or.inl rfl))).tr (Sm.sR (Or.inl rfl))).tr (hS.mono (fun i hi => Or.inr hi))
    generalize evF s t (nmA (nI (sN s (10 + 3 * k + 1))) (nI (sN s (10 + 3 * k + 2))) (nI h)) = v at hag
    refine jr_iload dX9_again_53 rfl ?_
    refine jr_iconst (1) dX9_again_55 (by decide) ?_
    refine jr_icmp_ge 63 dX9_again_56 (by decide) (fun c_56 => ?_) (fun c_56 => ?_)
    · simp only [lt_i, le_i, eq_i, Int32.reduceToInt] at c_56
      refine jr_iload dX9_again_63 rfl ?_
      refine jr_bipush (14) dX9_again_65 (by decide) ?_
      refine jr_icmp_le 75 dX9_again_67 (by decide) (fun c_67 => ?_) (fun c_67 => ?_)
      · simp only [lt_i, le_i, eq_i, Int32.reduceToInt] at c_67
        refine jr_iload dX9_again_75 rfl ?_
        refine jr_iret rfl dX9_again_77 ?_
        refine hQ _ _ ⟨?_, hS2⟩
        rw [hag, clipF]
        first | rw [if_pos (by omega)]; rfl | (rw [if_neg (by omega), if_pos (by omega)]; rfl) | (rw [if_neg (by omega), if_neg (by omega)]; rw [eq_i, i_nI (by have : v.toNatClampNeg = v.toInt.toNat := rfl; omega)]; have : v.toNatClampNeg = v.toInt.toNat := rfl; omega)
      · simp only [lt_i, le_i, eq_i, Int32.reduceToInt] at c_67
        refine jr_bipush (14) dX9_again_70 (by decide) ?_
        refine jr_goto 77 dX9_again_72 (by decide) ?_
        refine jr_iret rfl dX9_again_77 ?_
        refine hQ _ _ ⟨?_, hS2⟩
        rw [hag, clipF]
        first | rw [if_pos (by omega)]; rfl | (rw [if_neg (by omega), if_pos (by omega)]; rfl) | (rw [if_neg (by omega), if_neg (by omega)]; rw [eq_i, i_nI (by have : v.toNatClampNeg = v.toInt.toNat := rfl; omega)]; have : v.toNatClampNeg = v.toInt.toNat := rfl; omega)
    · simp only [lt_i, le_i, eq_i, Int32.reduceToInt] at c_56
      refine jr_iconst (1) dX9_again_59 (by decide) ?_
      refine jr_goto 77 dX9_again_60 (by decide) ?_
      refine jr_iret rfl dX9_again_77 ?_
      refine hQ _ _ ⟨?_, hS2⟩
      rw [hag, clipF]
      first | rw [if_pos (by omega)]; rfl | (rw [if_neg (by omega), if_pos (by omega)]; rfl) | (rw [if_neg (by omega), if_neg (by omega)]; rw [eq_i, i_nI (by have : v.toNatClampNeg = v.toInt.toNat := rfl; omega)]; have : v.toNatClampNeg = v.toInt.toNat := rfl; omega)
theorem c_strikes (g : Cx) (w : Wd) (hw : Wf w) (s : Nat → Int32) (hs : wI w 79 = s) (hG : Gd s) (k t : Nat) (hk : k < 6) (ht : t < 720) : CI g yX9_strikes cX9_strikes 6 (some .int) 4 0 0 [.ref (gb g + 78), .int (nI k), .int (nI t)] w (fun r w' => r = nI (stkF s k t) ∧ Sm scM w w') := by
  have hC : ClkOk s := hG.2.2.2.2.2.2.1
  obtain ⟨hkd, hof, htn⟩ := hC k hk
  refine CI.of (own := RX9) (nm := "strikes") (lv := [some (.ref (gb g + 78)), some (.int (nI k)), some (.int (nI t)), none, none, none]) (by decide) rfl rfl (Nat.le_of_ble_eq_true rfl) rfl (fun Q hQ => ?_)
  have hst : stkF s k t = skF (sN s (10 + 3 * k + 0)) (agW s (sN s (10 + 3 * k + 1)) (sN s (10 + 3 * k + 2))) (owF (sN s (10 + 3 * k + 1)) t) := rfl
  obtain ⟨ow, how⟩ : ∃ x, x = owF (sN s (10 + 3 * k + 1)) t := ⟨_, rfl⟩
  have hlt : ow < 720 := by rw [how]; exact ow_lt _ _
  have eow : (nI ow).toInt = (ow : Int) := i_nI (by omega)
  have hown : nI t + 720 - nI (sN s (10 + 3 * k + 1)) - (nI t + 720 - nI (sN s (10 + 3 * k + 1))) / 720 * 720 = nI ow := by
    have h1 := hof.2
    rw [jlit 720, nI_add, pk_sub (by omega), pk_rem (by omega) (by decide) (by decide), how]
    rfl
  have hmin : nI ow - nI ow / 60 * 60 = nI (ow % 60) := pk_rem (by omega) (by decide) (by decide)
  have emin : (nI (ow % 60)).toInt = ((ow % 60 : Nat) : Int) := i_nI (by omega)
  have ekd : (nI (sN s (10 + 3 * k + 0))).toInt = (sN s (10 + 3 * k + 0) : Int) := i_nI (by have := hkd.2; omega)
  have hhr := hr_rng hlt
  rw [← how] at hst
  have K : RR g RX9 cX9_strikes 6 (some .int) "strikes" 4 0 0 0 0 32 [some (.ref (gb g + 78)), some (.int (nI k)), some (.int (nI t)), some (.int (nI ow)), none, none] [.int (nI (hrF ow))] w Q := by
    refine jr_istore_4 dX9_strikes_32 (by decide) rfl ?_
    refine jr_iload_n dX9_strikes_34 rfl ?_
    refine jr_bipush (60) dX9_strikes_35 (by decide) ?_
    refine jr_irem dX9_strikes_37 (by decide) ?_
    rw [hmin]
    refine jr_istore_5 dX9_strikes_38 (by decide) rfl ?_
    refine jr_iload dX9_strikes_40 rfl ?_
    refine jr_if_ne 53 dX9_strikes_42 (by decide) (fun c_42 => ?_) (fun c_42 => ?_)
    · simp only [lt_i, le_i, eq_i, Int32.reduceToInt] at c_42
      refine jr_aload_n dX9_strikes_53 rfl ?_
      refine jr_iload_n dX9_strikes_54 rfl ?_
      refine jr_iconst (0) dX9_strikes_55 (by decide) ?_
      refine jc_Vi (c_of g _ hw k 0 hk (by decide)) lkX9_88 (hw.k rfl) rfl rfl (Nat.le_of_ble_eq_true rfl) (Nat.le_of_ble_eq_true rfl) dX9_strikes_56 (fun r_56 w_56 h_56 => ?_)
      obtain ⟨rfl, rfl⟩ := h_56
      rw [hs, hkd.1]
      refine swX9_strikes_59 (fun c_59 => ?_) (fun c_59 => ?_) (fun c_59 => ?_) (fun c_59 => ?_)
      · refine jr_iload dX9_strikes_92 rfl ?_
        refine jr_bipush (15) dX9_strikes_94 (by decide) ?_
        refine jr_irem dX9_strikes_96 (by decide) ?_
        have hm15 : nI (ow % 60) - nI (ow % 60) / 15 * 15 = nI (ow % 60 % 15) := pk_rem (by omega) (by decide) (by decide)
        rw [hm15]
        have e15 : (nI (ow % 60 % 15)).toInt = ((ow % 60 % 15 : Nat) : Int) := i_nI (by omega)
        refine jr_if_ne 108 dX9_strikes_97 (by decide) (fun c_97 => ?_) (fun c_97 => ?_)
        · simp only [lt_i, le_i, eq_i, Int32.reduceToInt] at c_97
          refine jr_iconst (0) dX9_strikes_108 (by decide) ?_
          refine jr_iret rfl dX9_strikes_109 ?_
          refine hQ _ _ ⟨?_, Sm.rf⟩
          rw [hst, skF, if_neg (by omega), if_pos (by omega)]
          first | (rw [if_pos (by omega)]; exact pk_div (by omega) (by decide) (by decide)) | (rw [if_neg (by omega)]; rfl)
        · simp only [lt_i, le_i, eq_i, Int32.reduceToInt] at c_97
          refine jr_iload dX9_strikes_100 rfl ?_
          refine jr_bipush (15) dX9_strikes_102 (by decide) ?_
          refine jr_idiv dX9_strikes_104 (by decide) ?_
          refine jr_goto 109 dX9_strikes_105 (by decide) ?_
          refine jr_iret rfl dX9_strikes_109 ?_
          refine hQ _ _ ⟨?_, Sm.rf⟩
          rw [hst, skF, if_neg (by omega), if_pos (by omega)]
          first | (rw [if_pos (by omega)]; exact pk_div (by omega) (by decide) (by decide)) | (rw [if_neg (by omega)]; rfl)
      · refine jr_iload dX9_strikes_123 rfl ?_
        refine jr_bipush (15) dX9_strikes_125 (by decide) ?_
        refine jr_icmp_ge 152 dX9_strikes_127 (by decide) (fun c_127 => ?_) (fun c_127 => ?_)
        · simp only [lt_i, le_i, eq_i, Int32.reduceToInt] at c_127
          refine jr_iconst (0) dX9_strikes_152 (by decide) ?_
          refine jr_iret rfl dX9_strikes_153 ?_
          refine hQ _ _ ⟨?_, by first | exact Sm.rf | exact hS⟩
          rw [hst, skF, if_neg (by omega), if_neg (by omega), if_pos (by omega)]
          first | rw [if_pos ⟨by omega, by omega⟩] | (rw [if_neg (by omega)]; rfl)
        · simp only [lt_i, le_i, eq_i, Int32.reduceToInt] at c_127
          refine jr_iload dX9_strikes_130 rfl ?_
          refine jr_aload_n dX9_strikes_132 rfl ?_
          refine jr_iload_n dX9_strikes_133 rfl ?_
          refine jr_iload dX9_strikes_134 rfl ?_
          refine jc_Vi (c_again g _ hw s hs hG k _ hk) lkX9_102 (hw.k rfl) rfl rfl (Nat.le_of_ble_eq_true rfl) (Nat.le_of_ble_eq_true rfl) dX9_strikes_136 (fun r_136 w_136 h_136 => ?_)
          obtain ⟨rfl, hS⟩ := h_136
          have hag := agW_rng s (sN s (10 + 3 * k + 1)) (sN s (10 + 3 * k + 2)) (hrF ow)
          have eag : (nI (agW s (sN s (10 + 3 * k + 1)) (sN s (10 + 3 * k + 2)) (hrF ow))).toInt = (agW s (sN s (10 + 3 * k + 1)) (sN s (10 + 3 * k + 2)) (hrF ow) : Int) := i_nI (by omega)
          refine jr_icmp_ne 152 dX9_strikes_139 (by decide) (fun c_139 => ?_) (fun c_139 => ?_)
          · simp only [lt_i, le_i, eq_i, Int32.reduceToInt] at c_139
            refine jr_iconst (0) dX9_strikes_152 (by decide) ?_
            refine jr_iret rfl dX9_strikes_153 ?_
            refine hQ _ _ ⟨?_, by first | exact Sm.rf | exact hS⟩
            rw [hst, skF, if_neg (by omega), if_neg (by omega), if_pos (by omega)]
            first | rw [if_pos ⟨by omega, by omega⟩] | (rw [if_neg (by omega)]; rfl)
          · simp only [lt_i, le_i, eq_i, Int32.reduceToInt] at c_139
            refine jr_aload_n dX9_strikes_142 rfl ?_
            refine jr_iload_n dX9_strikes_143 rfl ?_
            refine jr_iload dX9_strikes_144 rfl ?_
            refine jc_Vi (c_atHour g _ (hS.wf hw) s ((hS.row (scM_n (by decide))).trans hs) hC k _ hk hhr.2) lkX9_99 ((hS.wf hw).k rfl) rfl rfl (Nat.le_of_ble_eq_true rfl) (Nat.le_of_ble_eq_true rfl) dX9_strikes_146 (fun r_146 w_146 h_146 => ?_)
            obtain ⟨rfl, rfl⟩ := h_146
            refine jr_goto 153 dX9_strikes_149 (by decide) ?_
            refine jr_iret rfl dX9_strikes_153 ?_
            refine hQ _ _ ⟨?_, by first | exact Sm.rf | exact hS⟩
            rw [hst, skF, if_neg (by omega), if_neg (by omega), if_pos (by omega)]
            first | rw [if_pos ⟨by omega, by omega⟩] | (rw [if_neg (by omega)]; rfl)
      · refine jr_iload dX9_strikes_110 rfl ?_
        refine jr_bipush (30) dX9_strikes_112 (by decide) ?_
        refine jr_icmp_ne 121 dX9_strikes_114 (by decide) (fun c_114 => ?_) (fun c_114 => ?_)
        · simp only [lt_i, le_i, eq_i, Int32.reduceToInt] at c_114
          refine jr_iconst (0) dX9_strikes_121 (by decide) ?_
          refine jr_iret rfl dX9_strikes_122 ?_
          refine hQ _ _ ⟨?_, Sm.rf⟩
          rw [hst, skF, if_neg (by omega), if_neg (by omega), if_neg (by omega), if_pos (by omega)]
          first | (rw [if_pos (by omega)]; rfl) | (rw [if_neg (by omega)]; rfl)
        · simp only [lt_i, le_i, eq_i, Int32.reduceToInt] at c_114
          refine jr_iconst (1) dX9_strikes_117 (by decide) ?_
          refine jr_goto 122 dX9_strikes_118 (by decide) ?_
          refine jr_iret rfl dX9_strikes_122 ?_
          refine hQ _ _ ⟨?_, Sm.rf⟩
          rw [hst, skF, if_neg (by omega), if_neg (by omega), if_neg (by omega), if_pos (by omega)]
          first | (rw [if_pos (by omega)]; rfl) | (rw [if_neg (by omega)]; rfl)
      · refine jr_iconst (0) dX9_strikes_154 (by decide) ?_
        refine jr_iret rfl dX9_strikes_155 ?_
        exact hQ _ _ ⟨by rw [hst, skF, if_neg (by omega), if_neg (by omega), if_neg (by omega), if_neg (by omega)]; rfl, Sm.rf⟩
    · simp only [lt_i, le_i, eq_i, Int32.reduceToInt] at c_42
      refine jr_aload_n dX9_strikes_45 rfl ?_
      refine jr_iload_n dX9_strikes_46 rfl ?_
      refine jr_iload dX9_strikes_47 rfl ?_
      refine jc_Vi (c_atHour g _ hw s hs hC k _ hk hhr.2) lkX9_99 (hw.k rfl) rfl rfl (Nat.le_of_ble_eq_true rfl) (Nat.le_of_ble_eq_true rfl) dX9_strikes_49 (fun r_49 w_49 h_49 => ?_)
      obtain ⟨rfl, rfl⟩ := h_49
      refine jr_iret rfl dX9_strikes_52 ?_
      exact hQ _ _ ⟨by rw [hst, skF, if_pos (by omega)], Sm.rf⟩
  refine jr_iload_n dX9_strikes_0 rfl ?_
  refine jr_sipush (720) dX9_strikes_1 (by decide) ?_
  refine jr_iadd dX9_strikes_4 ?_
  refine jr_aload_n dX9_strikes_5 rfl ?_
  refine jr_iload_n dX9_strikes_6 rfl ?_
  refine jr_iconst (1) dX9_strikes_7 (by decide) ?_
  refine jc_Vi (c_of g _ hw k 1 hk (by decide)) lkX9_88 (hw.k rfl) rfl rfl (Nat.le_of_ble_eq_true rfl) (Nat.le_of_ble_eq_true rfl) dX9_strikes_8 (fun r_8 w_8 h_8 => ?_)
  obtain ⟨rfl, rfl⟩ := h_8
  rw [hs, hof.1]
  refine jr_isub dX9_strikes_11 ?_
  refine jr_sipush (720) dX9_strikes_12 (by decide) ?_
  refine jr_irem dX9_strikes_15 (by decide) ?_
  rw [hown]
  refine jr_istore_3 dX9_strikes_16 (by decide) rfl ?_
  refine jr_iload_n dX9_strikes_17 rfl ?_
  refine jr_bipush (60) dX9_strikes_18 (by decide) ?_
  refine jr_icmp_ge 28 dX9_strikes_20 (by decide) (fun c_20 => ?_) (fun c_20 => ?_)
  · simp only [lt_i, le_i, eq_i, Int32.reduceToInt] at c_20
    refine jr_iload_n dX9_strikes_28 rfl ?_
    refine jr_bipush (60) dX9_strikes_29 (by decide) ?_
    refine jr_idiv dX9_strikes_31 (by decide) ?_
    first | (rw [show (12 : Int32) = nI (hrF ow) by rw [hrF, if_pos (by omega)]; rfl]; exact K) | (rw [show nI ow / 60 = nI (hrF ow) by rw [hrF, if_neg (by omega)]; exact pk_div (by omega) (by decide) (by decide)]; exact K)
  · simp only [lt_i, le_i, eq_i, Int32.reduceToInt] at c_20
    refine jr_bipush (12) dX9_strikes_23 (by decide) ?_
    refine jr_goto 32 dX9_strikes_25 (by decide) ?_
    first | (rw [show (12 : Int32) = nI (hrF ow) by rw [hrF, if_pos (by omega)]; rfl]; exact K) | (rw [show nI ow / 60 = nI (hrF ow) by rw [hrF, if_neg (by omega)]; exact pk_div (by omega) (by decide) (by decide)]; exact K)
theorem c_mtotalAt (g : Cx) (w : Wd) (hw : Wf w) (s : Nat → Int32) (hs : wI w 79 = s) (hG : Gd s) (t : Nat) (ht : t < 720) : CI g yX9_totalAt cX9_totalAt 4 (some .int) 5 0 0 [.ref (gb g + 78), .int (nI t)] w (fun r w' => r = nI (totF s t (sN s 0)) ∧ Sm scM w w') := by
  obtain ⟨h0, -⟩ := id hG
  have h6 : sN s 0 ≤ 6 := h0.2
  refine CI.of (own := RX9) (nm := "totalAt") (lv := [some (.ref (gb g + 78)), some (.int (nI t)), none, none]) (by decide) rfl rfl (Nat.le_of_ble_eq_true rfl) rfl (fun Q hQ => ?_)
  have L : ∀ (f k : Nat) (w1 : Wd), f + k = sN s 0 → Sm scM w w1 → RR g RX9 cX9_totalAt 4 (some .int) "totalAt" 5 0 0 0 0 4 [some (.ref (gb g + 78)), some (.int (nI t)), some (.int (nI (totF s t k))), some (.int (nI k))] [] w1 Q := by
    intro f
    induction f with
    | zero =>
      intro k w1 hk hS
      have e : k = sN s 0 := by omega
      subst e
      have hw1 := hS.wf hw
      have hs1 : wI w1 79 = s := (hS.row (scM_n (by decide))).trans hs
      refine jr_iload_n dX9_totalAt_4 rfl ?_
      refine jr_aload_n dX9_totalAt_5 rfl ?_
      refine gfX9_7 79 dX9_totalAt_6 (hw1.k rfl) (hw1.f rfl) ?_
      refine jr_iconst (0) dX9_totalAt_9 (by decide) ?_
      refine jr_iald 0 (hw1.k rfl) rfl (by decide) dX9_totalAt_10 ?_
      refine jr_icmp_ge 29 dX9_totalAt_11 (by decide) (fun c_11 => ?_) (fun c_11 => absurd (by rw [hs1, h0.1]; exact Int32.le_refl _) c_11)
      refine jr_iload_n dX9_totalAt_29 rfl ?_
      refine jr_iret rfl dX9_totalAt_30 ?_
      exact hQ _ _ ⟨rfl, hS⟩
    | succ f ih =>
      intro k w1 hk hS
      have hw1 := hS.wf hw
      have hs1 : wI w1 79 = s := (hS.row (scM_n (by decide))).trans hs
      refine jr_iload_n dX9_totalAt_4 rfl ?_
      refine jr_aload_n dX9_totalAt_5 rfl ?_
      refine gfX9_7 79 dX9_totalAt_6 (hw1.k rfl) (hw1.f rfl) ?_
      refine jr_iconst (0) dX9_totalAt_9 (by decide) ?_
      refine jr_iald 0 (hw1.k rfl) rfl (by decide) dX9_totalAt_10 ?_
      refine jr_icmp_ge 29 dX9_totalAt_11 (by decide) (fun c_11 => absurd c_11 (by rw [hs1, h0.1]; exact nI_ge (by omega) (by omega))) (fun c_11 => ?_)
      refine jr_iload_n dX9_totalAt_14 rfl ?_
      refine jr_aload_n dX9_totalAt_15 rfl ?_
      refine jr_iload_n dX9_totalAt_16 rfl ?_
      refine jr_iload_n dX9_totalAt_17 rfl ?_
      refine jc_Vi (c_strikes g _ hw1 s hs1 hG k t (by omega) ht) lkX9_115 (hw1.k rfl) rfl rfl (Nat.le_of_ble_eq_true rfl) (Nat.le_of_ble_eq_true rfl) dX9_totalAt_18 (fun r_18 w_18 h_18 => ?_)
      obtain ⟨rfl, hS2⟩ := h_18
      refine jr_iadd dX9_totalAt_21 ?_
      rw [nI_add]
      refine jr_istore_2 dX9_totalAt_22 (by decide) rfl ?_
      refine jr_iinc_3 (nI (k + 1)) dX9_totalAt_23 (inc1 k) (by decide) rfl ?_
      refine jr_goto 4 dX9_totalAt_26 (by decide) ?_
      exact ih (k + 1) _ (by omega) (hS.tr hS2)
  refine jr_iconst (0) dX9_totalAt_0 (by decide) ?_
  refine jr_istore_2 dX9_totalAt_1 (by decide) rfl ?_
  refine jr_iconst (0) dX9_totalAt_2 (by decide) ?_
  refine jr_istore_3 dX9_totalAt_3 (by decide) rfl ?_
  exact L _ 0 w rfl Sm.rf
