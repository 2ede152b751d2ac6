def scR : Nat → Prop := fun i => i = 79 ∨ i = 90 ∨ i = 93 ∨ i = 94
theorem scA_R {i : Nat} (h : scA i) : scR i := by unfold scR; rcases h with h | h | h <;> omega
theorem scR_P {i : Nat} (h : scR i) : scP i := by unfold scP; rcases h with h | h | h | h <;> omega
theorem scR_n {i : Nat} (h : i < 90) (h2 : i ≠ 79) : ¬ scR i := fun e => by rcases e with e | e | e | e <;> omega
theorem m_right (g : Cx) (w : Wd) (hw : Wf w) (s : Nat → Int32) (hs : wI w 79 = s) (hG : Gd s) (c x : Int32) : CI g yX9_right cX9_right 8 (some .int) 7 0 0 [.ref (gb g + 78), .int c, .int x] w (fun r w' => r = F_right s c x ∧ MS w w' s) := by
  obtain ⟨h0, -⟩ := id hG
  have h6 := h0.2
  have hT96 : ∀ t, totT s t ≤ 96 := fun t => by have := tot_le s t (sN s 0); unfold totT; omega
  refine CI.of (own := RX9) (nm := "right") (lv := [some (.ref (gb g + 78)), some (.int c), some (.int x), none, none, none, none, none]) (by decide) rfl rfl (Nat.le_of_ble_eq_true rfl) rfl (fun Q hQ => ?_)
  have L : ∀ (k : Nat), k < sN s 0 → c = nI k → inR x 0 1 → ∀ (f o : Nat) (w1 : Wd) (v0 : Int32) (a7 : Option Value), f + o = 60 → Sm scR w w1 → wI w1 79 = upd s (10 + 3 * k + 1) v0 → AllR (wI w1 90) (T_out s k) → RR g RX9 cX9_right 8 (some .int) "right" 7 0 0 0 0 47 [some (.ref (gb g + 78)), some (.int c), some (.int x), some (.int (s (10 + 3 * k + 1))), some (.int (rtF s k o).1), some (.int (rtF s k o).2), some (.int (nI o)), a7] [] w1 Q := by
    intro k hk ec hx f
    have hto : ∀ t, T_out s k t ≤ 96 := fun t => Nat.le_trans (Nat.sub_le _ _) (hT96 t)
    subst ec
    induction f with
    | zero =>
      intro o w1 v0 a7 ho hS hr hA
      have e : o = 60 := by omega
      subst e
      have hw1 := hS.wf hw
      refine jr_iload dX9_right_47 rfl ?_
      refine jr_bipush (59) dX9_right_49 (by decide) ?_
      refine jr_icmp_gt 111 dX9_right_51 (by decide) (fun c_51 => ?_) (fun c_51 => absurd (by decide) c_51)
      refine jr_aload_n dX9_right_111 rfl ?_
      refine jr_iload_n dX9_right_112 rfl ?_
      refine jr_iconst (1) dX9_right_113 (by decide) ?_
      refine jr_iload_n dX9_right_114 rfl ?_
      refine jc_Vv (c_sets g _ hw1 k 1 _ (by omega) (by decide)) lkX9_73 (hw1.k rfl) rfl rfl (Nat.le_of_ble_eq_true rfl) (Nat.le_of_ble_eq_true rfl) dX9_right_115 (fun w_115 h_115 => ?_)
      obtain rfl := h_115
      refine jr_iload dX9_right_118 rfl ?_
      refine jr_if_ge 128 dX9_right_120 (by decide) (fun c_120 => ?_) (fun c_120 => ?_)
      · simp only [lt_i, le_i, eq_i, Int32.reduceToInt] at c_120
        refine jr_iload_n dX9_right_128 rfl ?_
        refine jr_if_ne 137 dX9_right_129 (by decide) (fun c_129 => ?_) (fun c_129 => ?_)
        · simp only [lt_i, le_i, eq_i, Int32.reduceToInt] at c_129
          refine jr_iload dX9_right_137 rfl ?_
          refine jr_iret rfl dX9_right_139 ?_
          refine hQ _ _ ⟨?_, by rw [wI_sR_s, hr, upd_uu, upd_id], (hS.mono (fun _ q => scR_P q)).tr (Sm.sR (Or.inl rfl))⟩
          have ek := i_nI (n := k) (by omega)
          rw [F_right, if_pos (by unfold isC; exact ⟨⟨by omega, by omega⟩, hx⟩), nI_clamp (by omega)]
          first | rw [if_pos (by omega)] | rw [if_neg (by omega), if_pos (by omega)] | rw [if_neg (by omega), if_neg (by omega)]
        · simp only [lt_i, le_i, eq_i, Int32.reduceToInt] at c_129
          refine jr_iload dX9_right_132 rfl ?_
          refine jr_goto 139 dX9_right_134 (by decide) ?_
          refine jr_iret rfl dX9_right_139 ?_
          refine hQ _ _ ⟨?_, by rw [wI_sR_s, hr, upd_uu, upd_id], (hS.mono (fun _ q => scR_P q)).tr (Sm.sR (Or.inl rfl))⟩
          have ek := i_nI (n := k) (by omega)
          rw [F_right, if_pos (by unfold isC; exact ⟨⟨by omega, by omega⟩, hx⟩), nI_clamp (by omega)]
          first | rw [if_pos (by omega)] | rw [if_neg (by omega), if_pos (by omega)] | rw [if_neg (by omega), if_neg (by omega)]
      · simp only [lt_i, le_i, eq_i, Int32.reduceToInt] at c_120
        refine jr_ldc (-1000000005) ckX9_67 dX9_right_123 ?_
        refine jr_goto 139 dX9_right_125 (by decide) ?_
        refine jr_iret rfl dX9_right_139 ?_
        refine hQ _ _ ⟨?_, by rw [wI_sR_s, hr, upd_uu, upd_id], (hS.mono (fun _ q => scR_P q)).tr (Sm.sR (Or.inl rfl))⟩
        have ek := i_nI (n := k) (by omega)
        rw [F_right, if_pos (by unfold isC; exact ⟨⟨by omega, by omega⟩, hx⟩), nI_clamp (by omega)]
        first | rw [if_pos (by omega)] | rw [if_neg (by omega), if_pos (by omega)] | rw [if_neg (by omega), if_neg (by omega)]
    | succ f ih =>
      intro o w1 v0 a7 ho hS hr hA
      have hw1 := hS.wf hw
      have hG2 : Gd (upd s (10 + 3 * k + 1) (nI o)) := Gd_ck hG (by omega) (by decide) (by rw [if_neg (by decide), if_pos rfl]; omega)
      have hso := fun t => stk_off hG (k := k) (o := o) (by omega) (by omega) t
      have hm1 : ∀ t, t < 720 → nI (T_out s k t) + 1 * nI (stkF (upd s (10 + 3 * k + 1) (nI o)) k t) = nI (T_in s k o t) := fun t _ => by rw [Int32.one_mul, nI_add, hso]; rfl
      have hm2 : ∀ t, t < 720 → nI (T_in s k o t) + (-1) * nI (stkF (upd s (10 + 3 * k + 1) (nI o)) k t) = nI (T_out s k t) := fun t _ => by
        rw [Int32.neg_mul, Int32.one_mul, ← Int32.sub_eq_add_neg, hso, T_in, pk_sub (by omega), Nat.add_sub_cancel]
      have hti : ∀ t, T_in s k o t ≤ 1000 := fun t => by have := hto t; have := stkW_le s (sN s (10 + 3 * k + 0)) o (sN s (10 + 3 * k + 2)) t; unfold T_in; omega
      have hfp : (fun t => fitB (upd s (10 + 3 * k + 1) (nI o)) (T_in s k o) t (sN (upd s (10 + 3 * k + 1) (nI o)) 8)) = fitP s (T_in s k o) := by
        funext t
        exact fitP_congr (fun _ _ => rfl) (pk_un (by omega)) (pk_un (by omega)) (pk_un (by omega)) hG.2.2.2.2.2.1.2 (fun j _ => pk_un (by omega)) t
      have hrt : rtF s k (o + 1) = if 0 < (nI (cntB (fitP s (T_in s k o)) 720)).toInt ∧ ((rtF s k o).1.toInt < 0 ∨ (nI (cntB (fitP s (T_in s k o)) 720)).toInt < (rtF s k o).2.toInt) then (nI o, nI (cntB (fitP s (T_in s k o)) 720)) else rtF s k o := rfl
      refine jr_iload dX9_right_47 rfl ?_
      refine jr_bipush (59) dX9_right_49 (by decide) ?_
      refine jr_icmp_gt 111 dX9_right_51 (by decide) (fun c_51 => absurd c_51 (nI_nlt (a := 59) (by omega) (by omega))) (fun c_51 => ?_)
      refine jr_aload_n dX9_right_54 rfl ?_
      refine jr_iload_n dX9_right_55 rfl ?_
      refine jr_iconst (1) dX9_right_56 (by decide) ?_
      refine jr_iload dX9_right_57 rfl ?_
      refine jc_Vv (c_sets g _ hw1 k 1 _ (by omega) (by decide)) lkX9_73 (hw1.k rfl) rfl rfl (Nat.le_of_ble_eq_true rfl) (Nat.le_of_ble_eq_true rfl) dX9_right_59 (fun w_59 h_59 => ?_)
      obtain rfl := h_59
      have hr1 : wI (sR w1 79 (upd (wI w1 79) (10 + 3 * k + 1) (nI o))) 79 = upd s (10 + 3 * k + 1) (nI o) := by rw [wI_sR_s, hr, upd_uu]
      have hA1 : AllR (wI (sR w1 79 (upd (wI w1 79) (10 + 3 * k + 1) (nI o))) 90) (T_out s k) := by rw [wI_sR_n _ (by decide)]; exact hA
      refine jr_aload_n dX9_right_62 rfl ?_
      refine jr_iload_n dX9_right_63 rfl ?_
      refine jr_iconst (1) dX9_right_64 (by decide) ?_
      refine jc_Vv (c_findMore g _ (by exact hw1) _ hr1 hG2 k (by omega) _ _ _ hA1 hm1) lkX9_171 (hw1.k rfl) rfl rfl (Nat.le_of_ble_eq_true rfl) (Nat.le_of_ble_eq_true rfl) dX9_right_65 (fun w_65 h_65 => ?_)
      obtain ⟨hA2, hS2⟩ := h_65
      have hw2 := hS2.wf (by exact hw1)
      have hs2 : wI w_65 79 = upd s (10 + 3 * k + 1) (nI o) := (hS2.row (scA_n (by decide))).trans hr1
      refine jr_aload_n dX9_right_68 rfl ?_
      refine jc_Vi (c_manyFit g _ hw2 _ hs2 hG2 _ hti hA2) lkX9_164 (hw2.k rfl) rfl rfl (Nat.le_of_ble_eq_true rfl) (Nat.le_of_ble_eq_true rfl) dX9_right_69 (fun r_69 w_69 h_69 => ?_)
      obtain ⟨rfl, rfl⟩ := h_69
      rw [hfp]
      refine jr_istore_7 dX9_right_72 (by decide) rfl ?_
      refine jr_aload_n dX9_right_74 rfl ?_
      refine jr_iload_n dX9_right_75 rfl ?_
      refine jr_iconst (-1) dX9_right_76 (by decide) ?_
      refine jc_Vv (c_findMore g _ hw2 _ hs2 hG2 k (by omega) _ _ _ hA2 hm2) lkX9_171 (hw2.k rfl) rfl rfl (Nat.le_of_ble_eq_true rfl) (Nat.le_of_ble_eq_true rfl) dX9_right_77 (fun w_77 h_77 => ?_)
      obtain ⟨hA3, hS3⟩ := h_77
      have hS4 : Sm scR w w_77 := ((hS.tr (Sm.sR (Or.inl rfl))).tr (hS2.mono (fun _ q => scA_R q))).tr (hS3.mono (fun _ q => scA_R q))
      have hr4 : wI w_77 79 = upd s (10 + 3 * k + 1) (nI o) := (hS3.row (scA_n (by decide))).trans hs2
      refine jr_iload dX9_right_80 rfl ?_
      refine jr_if_le 105 dX9_right_82 (by decide) (fun c_82 => ?_) (fun c_82 => ?_)
      · simp only [lt_i, le_i, eq_i, Int32.reduceToInt] at c_82
        refine jr_iinc_6 (nI (o + 1)) dX9_right_105 (inc1 o) (by decide) rfl ?_
        refine jr_goto 47 dX9_right_108 (by decide) ?_
        have h9 := ih (o + 1) _ _ (some (.int (nI (cntB (fitP s (T_in s k o)) 720)))) (by omega) hS4 hr4 hA3
        rw [hrt] at h9
        first | (rw [if_pos (by omega)] at h9; exact h9) | (rw [if_neg (by omega)] at h9; exact h9)
      · simp only [lt_i, le_i, eq_i, Int32.reduceToInt] at c_82
        refine jr_iload dX9_right_85 rfl ?_
        refine jr_if_lt 97 dX9_right_87 (by decide) (fun c_87 => ?_) (fun c_87 => ?_)
        · simp only [lt_i, le_i, eq_i, Int32.reduceToInt] at c_87
          refine jr_iload dX9_right_97 rfl ?_
          refine jr_istore_4 dX9_right_99 (by decide) rfl ?_
          refine jr_iload dX9_right_101 rfl ?_
          refine jr_istore_5 dX9_right_103 (by decide) rfl ?_
          refine jr_iinc_6 (nI (o + 1)) dX9_right_105 (inc1 o) (by decide) rfl ?_
          refine jr_goto 47 dX9_right_108 (by decide) ?_
          have h9 := ih (o + 1) _ _ (some (.int (nI (cntB (fitP s (T_in s k o)) 720)))) (by omega) hS4 hr4 hA3
          rw [hrt] at h9
          first | (rw [if_pos (by omega)] at h9; exact h9) | (rw [if_neg (by omega)] at h9; exact h9)
        · simp only [lt_i, le_i, eq_i, Int32.reduceToInt] at c_87
          refine jr_iload dX9_right_90 rfl ?_
          refine jr_iload dX9_right_92 rfl ?_
          refine jr_icmp_ge 105 dX9_right_94 (by decide) (fun c_94 => ?_) (fun c_94 => ?_)
          · simp only [lt_i, le_i, eq_i, Int32.reduceToInt] at c_94
            refine jr_iinc_6 (nI (o + 1)) dX9_right_105 (inc1 o) (by decide) rfl ?_
            refine jr_goto 47 dX9_right_108 (by decide) ?_
            have h9 := ih (o + 1) _ _ (some (.int (nI (cntB (fitP s (T_in s k o)) 720)))) (by omega) hS4 hr4 hA3
            rw [hrt] at h9
            first | (rw [if_pos (by omega)] at h9; exact h9) | (rw [if_neg (by omega)] at h9; exact h9)
          · simp only [lt_i, le_i, eq_i, Int32.reduceToInt] at c_94
            refine jr_iload dX9_right_97 rfl ?_
            refine jr_istore_4 dX9_right_99 (by decide) rfl ?_
            refine jr_iload dX9_right_101 rfl ?_
            refine jr_istore_5 dX9_right_103 (by decide) rfl ?_
            refine jr_iinc_6 (nI (o + 1)) dX9_right_105 (inc1 o) (by decide) rfl ?_
            refine jr_goto 47 dX9_right_108 (by decide) ?_
            have h9 := ih (o + 1) _ _ (some (.int (nI (cntB (fitP s (T_in s k o)) 720)))) (by omega) hS4 hr4 hA3
            rw [hrt] at h9
            first | (rw [if_pos (by omega)] at h9; exact h9) | (rw [if_neg (by omega)] at h9; exact h9)
  refine jr_aload_n dX9_right_0 rfl ?_
  refine jr_iload_n dX9_right_1 rfl ?_
  refine jc_Vi (c_isClock g _ hw _ (sN s 0) h6 (by rw [hs]; exact h0.1)) lkX9_107 (hw.k rfl) rfl rfl (Nat.le_of_ble_eq_true rfl) (Nat.le_of_ble_eq_true rfl) dX9_right_2 (fun r_2 w_2 h_2 => ?_)
  obtain ⟨rfl, rfl⟩ := h_2
  refine jr_if_eq 18 dX9_right_5 (by decide) (fun c_5 => ?_) (fun c_5 => ?_)
  · rw [jb_0] at c_5
    refine jr_ldc (-1000000001) ckX9_83 dX9_right_18 ?_
    refine jr_iret rfl dX9_right_20 ?_
    exact hQ _ _ ⟨by rw [F_right, if_neg (by unfold isC inR; omega)], MS.rf hs⟩
  · rw [jb_1] at c_5
    obtain ⟨k, hk, ec⟩ := i_of c_5.1 c_5.2
    refine jr_iload_n dX9_right_8 rfl ?_
    refine jr_i2l dX9_right_9 ?_
    refine jr_lconst 0 dX9_right_10 (by decide) ?_
    refine jr_lconst 1 dX9_right_11 (by decide) ?_
    refine jc_Si (c_isInI g _ _ _ _) lkX9_68 rfl rfl (Nat.le_of_ble_eq_true rfl) (Nat.le_of_ble_eq_true rfl) dX9_right_12 (fun r_12 w_12 h_12 => ?_)
    obtain ⟨rfl, rfl⟩ := h_12
    refine jr_if_ne 21 dX9_right_15 (by decide) (fun c_15 => ?_) (fun c_15 => ?_)
    · rw [jb_1] at c_15
      simp only [Int64.reduceToInt] at c_15
      refine jr_aload_n dX9_right_21 rfl ?_
      refine jc_Vv (c_findAll g _ hw s hs hG) lkX9_161 (hw.k rfl) rfl rfl (Nat.le_of_ble_eq_true rfl) (Nat.le_of_ble_eq_true rfl) dX9_right_22 (fun w_22 h_22 => ?_)
      obtain ⟨hA, hS⟩ := h_22
      subst ec
      have hw2 := hS.wf hw
      have hs2 : wI w_22 79 = s := (hS.row (scA_n (by decide))).trans hs
      refine jr_aload_n dX9_right_25 rfl ?_
      refine jr_iload_n dX9_right_26 rfl ?_
      refine jr_iconst (1) dX9_right_27 (by decide) ?_
      refine jc_Vi (c_of g _ hw2 k 1 (by omega) (by decide)) lkX9_88 (hw2.k rfl) rfl rfl (Nat.le_of_ble_eq_true rfl) (Nat.le_of_ble_eq_true rfl) dX9_right_28 (fun r_28 w_28 h_28 => ?_)
      obtain ⟨rfl, rfl⟩ := h_28
      rw [hs2]
      refine jr_istore_3 dX9_right_31 (by decide) rfl ?_
      refine jr_aload_n dX9_right_32 rfl ?_
      refine jr_iload_n dX9_right_33 rfl ?_
      refine jr_iconst (-1) dX9_right_34 (by decide) ?_
      refine jc_Vv (c_findMore g _ hw2 s hs2 hG k (by omega) _ _ (T_out s k) hA (fun t _ => by have := stk_tot s t (k := k) (sN s 0) (by omega); rw [Int32.neg_mul, Int32.one_mul, ← Int32.sub_eq_add_neg, pk_sub this]; rfl)) lkX9_171 (hw2.k rfl) rfl rfl (Nat.le_of_ble_eq_true rfl) (Nat.le_of_ble_eq_true rfl) dX9_right_35 (fun w_35 h_35 => ?_)
      obtain ⟨hA2, hS2⟩ := h_35
      refine jr_iconst (-1) dX9_right_38 (by decide) ?_
      refine jr_istore_4 dX9_right_39 (by decide) rfl ?_
      refine jr_iconst (0) dX9_right_41 (by decide) ?_
      refine jr_istore_5 dX9_right_42 (by decide) rfl ?_
      refine jr_iconst (0) dX9_right_44 (by decide) ?_
      refine jr_istore_6 dX9_right_45 (by decide) rfl ?_
      exact L k hk rfl (by unfold inR; omega) 60 0 _ (s (10 + 3 * k + 1)) none rfl ((hS.mono (fun _ q => scA_R q)).tr (hS2.mono (fun _ q => scA_R q))) (by rw [upd_id]; exact (hS2.row (scA_n (by decide))).trans hs2) hA2
    · rw [jb_0] at c_15
      simp only [Int64.reduceToInt] at c_15
      refine jr_ldc (-1000000001) ckX9_83 dX9_right_18 ?_
      refine jr_iret rfl dX9_right_20 ?_
      exact hQ _ _ ⟨by rw [F_right, if_neg (by unfold isC inR; omega)], MS.rf hs⟩
theorem c_laysBy (g : Cx) (w : Wd) (hw : Wf w) : CV g yX9_laysBy cX9_laysBy 2 1 0 0 [.ref (gb g + 78)] w (fun w' => (∀ j, j < 40 → wI w' 91 j = wI w 79 j) ∧ Sm (fun i => i = 91) w w') := by
  refine CV.of (own := RX9) (nm := "laysBy") (lv := [some (.ref (gb g + 78)), none]) (by decide) rfl rfl (Nat.le_of_ble_eq_true rfl) rfl (fun Q hQ => ?_)
  have L : ∀ (f k : Nat) (w1 : Wd), f + k = 40 → (∀ j, j < k → wI w1 91 j = wI w 79 j) → Sm (fun i => i = 91) w w1 → RR g RX9 cX9_laysBy 2 none "laysBy" 1 0 0 0 0 2 [some (.ref (gb g + 78)), some (.int (nI k))] [] w1 Q := by
    intro f
    induction f with
    | zero =>
      intro k w1 hk hj hS
      have e : k = 40 := by omega
      subst e
      have hw1 := hS.wf hw
      refine jr_iload_n dX9_laysBy_2 rfl ?_
      refine jr_bipush (40) dX9_laysBy_3 (by decide) ?_
      refine jr_icmp_ge 26 dX9_laysBy_5 (by decide) (fun c_5 => ?_) (fun c_5 => absurd (by decide) c_5)
      refine jr_vret rfl dX9_laysBy_26 ?_
      exact hQ _ ⟨hj, hS⟩
    | succ f ih =>
      intro k w1 hk hj hS
      have hw1 := hS.wf hw
      refine jr_iload_n dX9_laysBy_2 rfl ?_
      refine jr_bipush (40) dX9_laysBy_3 (by decide) ?_
      refine jr_icmp_ge 26 dX9_laysBy_5 (by decide) (fun c_5 => absurd c_5 (nI_ge (b := 40) (by omega) (by omega))) (fun c_5 => ?_)
      refine jr_aload_n dX9_laysBy_8 rfl ?_
      refine gfX9_46 91 dX9_laysBy_9 (hw1.k rfl) (hw1.f rfl) ?_
      refine jr_iload_n dX9_laysBy_12 rfl ?_
      refine jr_aload_n dX9_laysBy_13 rfl ?_
      refine gfX9_7 79 dX9_laysBy_14 (hw1.k rfl) (hw1.f rfl) ?_
      refine jr_iload_n dX9_laysBy_17 rfl ?_
      refine jr_iald k (hw1.k rfl) rfl ⟨by omega, by decide⟩ dX9_laysBy_18 ?_
      refine jr_iast k (hw1.k rfl) rfl ⟨by omega, by decide⟩ dX9_laysBy_19 ?_
      refine jr_iinc_1 (nI (k + 1)) dX9_laysBy_20 (inc1 k) (by decide) rfl ?_
      refine jr_goto 2 dX9_laysBy_23 (by decide) ?_
      refine ih (k + 1) _ (by omega) (fun j hj2 => ?_) (hS.tr (Sm.sR rfl))
      rw [wI_sR_s]
      by_cases e : j = k
      · rw [e, pk_us, hS.row (by decide)]
      · rw [pk_un e, hj j (by omega)]
  refine jr_iconst (0) dX9_laysBy_0 (by decide) ?_
  refine jr_istore_1 dX9_laysBy_1 (by decide) rfl ?_
  exact L 40 0 w rfl (fun j hj => absurd hj (by omega)) Sm.rf
theorem c_laysBack (g : Cx) (w : Wd) (hw : Wf w) : CV g yX9_laysBack cX9_laysBack 2 1 0 0 [.ref (gb g + 78)] w (fun w' => wI w' 79 = lbR (wI w 79) (wI w 91) ∧ Sm (fun i => i = 79) w w') := by
  refine CV.of (own := RX9) (nm := "laysBack") (lv := [some (.ref (gb g + 78)), none]) (by decide) rfl rfl (Nat.le_of_ble_eq_true rfl) rfl (fun Q hQ => ?_)
  have L : ∀ (f k : Nat) (w1 : Wd), f + k = 40 → (∀ j, j < k → wI w1 79 j = wI w 91 j) → (∀ j, k ≤ j → wI w1 79 j = wI w 79 j) → Sm (fun i => i = 79) w w1 → RR g RX9 cX9_laysBack 2 none "laysBack" 1 0 0 0 0 2 [some (.ref (gb g + 78)), some (.int (nI k))] [] w1 Q := by
    intro f
    induction f with
    | zero =>
      intro k w1 hk hj hj2 hS
      have e : k = 40 := by omega
      subst e
      have hw1 := hS.wf hw
      refine jr_iload_n dX9_laysBack_2 rfl ?_
      refine jr_bipush (40) dX9_laysBack_3 (by decide) ?_
      refine jr_icmp_ge 26 dX9_laysBack_5 (by decide) (fun c_5 => ?_) (fun c_5 => absurd (by decide) c_5)
      refine jr_vret rfl dX9_laysBack_26 ?_
      refine hQ _ ⟨?_, hS⟩
      funext j
      unfold lbR
      by_cases h : j < 40
      · rw [if_pos h, hj j h]
      · rw [if_neg h, hj2 j (by omega)]
    | succ f ih =>
      intro k w1 hk hj hj2 hS
      have hw1 := hS.wf hw
      refine jr_iload_n dX9_laysBack_2 rfl ?_
      refine jr_bipush (40) dX9_laysBack_3 (by decide) ?_
      refine jr_icmp_ge 26 dX9_laysBack_5 (by decide) (fun c_5 => absurd c_5 (nI_ge (b := 40) (by omega) (by omega))) (fun c_5 => ?_)
      refine jr_aload_n dX9_laysBack_8 rfl ?_
      refine gfX9_7 79 dX9_laysBack_9 (hw1.k rfl) (hw1.f rfl) ?_
      refine jr_iload_n dX9_laysBack_12 rfl ?_
      refine jr_aload_n dX9_laysBack_13 rfl ?_
      refine gfX9_46 91 dX9_laysBack_14 (hw1.k rfl) (hw1.f rfl) ?_
      refine jr_iload_n dX9_laysBack_17 rfl ?_
      refine jr_iald k (hw1.k rfl) rfl ⟨by omega, by decide⟩ dX9_laysBack_18 ?_
      refine jr_iast k (hw1.k rfl) rfl ⟨by omega, by decide⟩ dX9_laysBack_19 ?_
      refine jr_iinc_1 (nI (k + 1)) dX9_laysBack_20 (inc1 k) (by decide) rfl ?_
      refine jr_goto 2 dX9_laysBack_23 (by decide) ?_
      refine ih (k + 1) _ (by omega) (fun j hj3 => ?_) (fun j hj3 => ?_) (hS.tr (Sm.sR rfl))
      · rw [wI_sR_s]
        by_cases e : j = k
        · rw [e, pk_us, hS.row (by decide)]
        · rw [pk_un e, hj j (by omega)]
      · rw [wI_sR_s, pk_un (by omega), hj2 j (by omega)]
  refine jr_iconst (0) dX9_laysBack_0 (by decide) ?_
  refine jr_istore_1 dX9_laysBack_1 (by decide) rfl ?_
  exact L 40 0 w rfl (fun j hj => absurd hj (by omega)) (fun _ _ => rfl) Sm.rf
