def scB : Nat → Prop := fun i => i = 79 ∨ i = 90 ∨ i = 91 ∨ i = 93 ∨ i = 94
theorem scA_B {i : Nat} (h : scA i) : scB i := by unfold scB; rcases h with h | h | h <;> omega
theorem scS_B {i : Nat} (h : scS i) : scB i := by unfold scB; rcases h with h | h | h <;> omega
theorem scB_P {i : Nat} (h : scB i) : scP i := by unfold scP; rcases h with h | h | h | h | h <;> omega
theorem m_behind (g : Cx) (w : Wd) (hw : Wf w) (s : Nat → Int32) (hs : wI w 79 = s) (hG : Gd s) (h99 : sN s 2 ≤ 9999) (n x : Int32) : CI g yX9_behind cX9_behind 4 (some .int) 8 0 0 [.ref (gb g + 78), .int n, .int x] w (fun r w' => r = F_behind s n x ∧ MS w w' s) := by
  have hG2 := fun k hk => (Gd_goM hG k hk).1
  refine CI.of (own := RX9) (nm := "behind") (lv := [some (.ref (gb g + 78)), some (.int n), some (.int x), none]) (by decide) rfl rfl (Nat.le_of_ble_eq_true rfl) rfl (fun Q hQ => ?_)
  refine jr_iload_n dX9_behind_0 rfl ?_
  refine jr_i2l dX9_behind_1 ?_
  refine jr_lconst 0 dX9_behind_2 (by decide) ?_
  refine jr_ldc2 (100) ckX9_137 dX9_behind_3 ?_
  refine jc_Si (c_isInI g _ _ _ _) lkX9_68 rfl rfl (Nat.le_of_ble_eq_true rfl) (Nat.le_of_ble_eq_true rfl) dX9_behind_6 (fun r_6 w_6 h_6 => ?_)
  obtain ⟨rfl, rfl⟩ := h_6
  refine jr_if_eq 24 dX9_behind_9 (by decide) (fun c_9 => ?_) (fun c_9 => ?_)
  · rw [jb_0] at c_9
    simp only [Int64.reduceToInt] at c_9
    refine jr_ldc (-1000000001) ckX9_83 dX9_behind_24 ?_
    refine jr_iret rfl dX9_behind_26 ?_
    exact hQ _ _ ⟨by rw [F_behind, if_neg (by unfold inR; omega)], MS.rf hs⟩
  · rw [jb_1] at c_9
    simp only [Int64.reduceToInt] at c_9
    obtain ⟨m, hm, en⟩ := i_of (n := 101) (x := n) c_9.1 (by omega)
    subst en
    refine jr_iload_n dX9_behind_12 rfl ?_
    refine jr_i2l dX9_behind_13 ?_
    refine jr_lconst 0 dX9_behind_14 (by decide) ?_
    refine jr_ldc2 (3) ckX9_151 dX9_behind_15 ?_
    refine jc_Si (c_isInI g _ _ _ _) lkX9_68 rfl rfl (Nat.le_of_ble_eq_true rfl) (Nat.le_of_ble_eq_true rfl) dX9_behind_18 (fun r_18 w_18 h_18 => ?_)
    obtain ⟨rfl, rfl⟩ := h_18
    refine jr_if_ne 27 dX9_behind_21 (by decide) (fun c_21 => ?_) (fun c_21 => ?_)
    · rw [jb_1] at c_21
      simp only [Int64.reduceToInt] at c_21
      obtain ⟨y, hy, ey⟩ := i_of (n := 4) (x := x) c_21.1 (by omega)
      subst ey
      have em := i_nI (n := m) (by omega)
      have ey := i_nI (n := y) (by omega)
      refine jr_aload_n dX9_behind_27 rfl ?_
      refine jc_Vv (c_findAll g _ hw s hs hG) lkX9_161 (hw.k rfl) rfl rfl (Nat.le_of_ble_eq_true rfl) (Nat.le_of_ble_eq_true rfl) dX9_behind_28 (fun w_28 h_28 => ?_)
      obtain ⟨hA, hS1⟩ := h_28
      have hw1 := hS1.wf hw
      have hs1 : wI w_28 79 = s := (hS1.row (scA_n (by decide))).trans hs
      refine jr_aload_n dX9_behind_31 rfl ?_
      refine jc_Vv (c_laysBy g _ hw1) lkX9_185 (hw1.k rfl) rfl rfl (Nat.le_of_ble_eq_true rfl) (Nat.le_of_ble_eq_true rfl) dX9_behind_32 (fun w_32 h_32 => ?_)
      obtain ⟨hc, hS2⟩ := h_32
      have hw2 := hS2.wf hw1
      have hs2 : wI w_32 79 = s := (hS2.row (by decide)).trans hs1
      have hA2 : AllR (wI w_32 90) (fun t => totF s t (sN s 0)) := by rw [hS2.row (by decide)]; exact hA
      refine jr_aload_n dX9_behind_35 rfl ?_
      refine jr_iload_n dX9_behind_36 rfl ?_
      refine jc_Vv (c_goesOnMany g _ hw2 s hs2 m (by omega) (fun i hi => hG2 i (by omega))) lkX9_147 (hw2.k rfl) rfl rfl (Nat.le_of_ble_eq_true rfl) (Nat.le_of_ble_eq_true rfl) dX9_behind_37 (fun w_37 h_37 => ?_)
      obtain ⟨hr3, hS3⟩ := h_37
      have hw3 := hS3.wf hw2
      have hA3 : AllR (wI w_37 90) (fun t => totF s t (sN s 0)) := by rw [hS3.row (scS_n (by decide) (by decide))]; exact hA2
      have hc3 : ∀ j, j < 40 → wI w_37 91 j = s j := fun j hj => by rw [hS3.row (scS_n (by decide) (by decide)), hc j hj, hs1]
      have hS4 : Sm scB w w_37 := ((hS1.mono (fun _ q => scA_B q)).tr (hS2.mono (fun i q => by unfold scB; omega))).tr (hS3.mono (fun _ q => scS_B q))
      refine jr_iload_n dX9_behind_40 rfl ?_
      refine jr_iconst (3) dX9_behind_41 (by decide) ?_
      refine jr_icmp_ge 56 dX9_behind_42 (by decide) (fun c_42 => ?_) (fun c_42 => ?_)
      · simp only [lt_i, le_i, eq_i, Int32.reduceToInt] at c_42
        refine jr_aload_n dX9_behind_56 rfl ?_
        refine jc_Vi (c_manyFit g _ hw3 _ hr3 (hG2 m (by omega)) _ (tot_1000 hG) hA3) lkX9_164 (hw3.k rfl) rfl rfl (Nat.le_of_ble_eq_true rfl) (Nat.le_of_ble_eq_true rfl) dX9_behind_57 (fun r_57 w_57 h_57 => ?_)
        obtain ⟨rfl, rfl⟩ := h_57
        refine jr_istore_3 dX9_behind_60 (by decide) rfl ?_
        refine jr_aload_n dX9_behind_61 rfl ?_
        refine jc_Vv (c_laysBack g _ hw3) lkX9_188 (hw3.k rfl) rfl rfl (Nat.le_of_ble_eq_true rfl) (Nat.le_of_ble_eq_true rfl) dX9_behind_62 (fun w_62 h_62 => ?_)
        obtain ⟨hr5, hS5⟩ := h_62
        refine jr_iload_n dX9_behind_65 rfl ?_
        refine jr_iret rfl dX9_behind_66 ?_
        have hMS : MS w w_62 s := ⟨by rw [hr5, hr3, lbR_go s m hc3], (hS4.mono (fun _ q => scB_P q)).tr (hS5.mono (fun i q => by unfold scP; omega))⟩
        first | exact hQ _ _ ⟨by rw [F_behind, if_pos (by unfold inR; omega), if_pos (by omega), nI_clamp (by omega), nI_clamp (by omega)], hMS⟩ | exact hQ _ _ ⟨by rw [F_behind, if_pos (by unfold inR; omega), if_neg (by omega), nI_clamp (by omega)]; rfl, hMS⟩
      · simp only [lt_i, le_i, eq_i, Int32.reduceToInt] at c_42
        refine jr_aload_n dX9_behind_45 rfl ?_
        refine gfX9_7 79 dX9_behind_46 (hw3.k rfl) (hw3.f rfl) ?_
        refine jr_iconst (3) dX9_behind_49 (by decide) ?_
        refine jr_iload_n dX9_behind_50 rfl ?_
        refine jr_iadd dX9_behind_51 ?_
        refine jr_iald (3 + y) (hw3.k rfl) (by rw [jlit 3, nI_add]) ⟨by omega, by decide⟩ dX9_behind_52 ?_
        rw [hr3]
        refine jr_goto 60 dX9_behind_53 (by decide) ?_
        refine jr_istore_3 dX9_behind_60 (by decide) rfl ?_
        refine jr_aload_n dX9_behind_61 rfl ?_
        refine jc_Vv (c_laysBack g _ hw3) lkX9_188 (hw3.k rfl) rfl rfl (Nat.le_of_ble_eq_true rfl) (Nat.le_of_ble_eq_true rfl) dX9_behind_62 (fun w_62 h_62 => ?_)
        obtain ⟨hr5, hS5⟩ := h_62
        refine jr_iload_n dX9_behind_65 rfl ?_
        refine jr_iret rfl dX9_behind_66 ?_
        have hMS : MS w w_62 s := ⟨by rw [hr5, hr3, lbR_go s m hc3], (hS4.mono (fun _ q => scB_P q)).tr (hS5.mono (fun i q => by unfold scP; omega))⟩
        first | exact hQ _ _ ⟨by rw [F_behind, if_pos (by unfold inR; omega), if_pos (by omega), nI_clamp (by omega), nI_clamp (by omega)], hMS⟩ | exact hQ _ _ ⟨by rw [F_behind, if_pos (by unfold inR; omega), if_neg (by omega), nI_clamp (by omega)]; rfl, hMS⟩
    · rw [jb_0] at c_21
      simp only [Int64.reduceToInt] at c_21
      refine jr_ldc (-1000000001) ckX9_83 dX9_behind_24 ?_
      refine jr_iret rfl dX9_behind_26 ?_
      exact hQ _ _ ⟨by rw [F_behind, if_neg (by unfold inR; omega)], MS.rf hs⟩
theorem m_listen (g : Cx) (w : Wd) (hw : Wf w) (s : Nat → Int32) (hs : wI w 79 = s) (hG : Gd s) (h99 : sN s 2 ≤ 9999) : CI g yX9_listen cX9_listen 2 (some .int) 7 0 0 [.ref (gb g + 78)] w (fun r w' => r = F_listen s ∧ MS w w' s) := by
  have hG2 := fun k hk => (Gd_goM hG k hk).1
  refine CI.of (own := RX9) (nm := "listen") (lv := [some (.ref (gb g + 78)), none]) (by decide) rfl rfl (Nat.le_of_ble_eq_true rfl) rfl (fun Q hQ => ?_)
  have K33 : ∀ (n : Nat) (w1 : Wd), n ≤ 61 → (n ≤ 60 → F_listen s = nI n) → (n = 61 → F_listen s = -1000000005) → Sm scB w w1 → wI w1 79 = goM s n → (∀ j, j < 40 → wI w1 91 j = s j) → RR g RX9 cX9_listen 2 (some .int) "listen" 7 0 0 0 0 33 [some (.ref (gb g + 78)), some (.int (nI n))] [] w1 Q := by
    intro n w1 hn h1 h2 hS hr hc
    have hw1 := hS.wf hw
    have en := i_nI (n := n) (by omega)
    refine jr_aload_n dX9_listen_33 rfl ?_
    refine jc_Vv (c_laysBack g _ hw1) lkX9_188 (hw1.k rfl) rfl rfl (Nat.le_of_ble_eq_true rfl) (Nat.le_of_ble_eq_true rfl) dX9_listen_34 (fun w_34 h_34 => ?_)
    obtain ⟨hr5, hS5⟩ := h_34
    refine jr_iload_n dX9_listen_37 rfl ?_
    refine jr_bipush (60) dX9_listen_38 (by decide) ?_
    refine jr_icmp_gt 47 dX9_listen_40 (by decide) (fun c_40 => ?_) (fun c_40 => ?_)
    · simp only [lt_i, le_i, eq_i, Int32.reduceToInt] at c_40
      refine jr_ldc (-1000000005) ckX9_67 dX9_listen_47 ?_
      refine jr_iret rfl dX9_listen_49 ?_
      have hMS : MS w w_34 s := ⟨by rw [hr5, hr, lbR_go s n hc], (hS.mono (fun _ q => scB_P q)).tr (hS5.mono (fun i q => by unfold scP; omega))⟩
      first | exact hQ _ _ ⟨(h1 (by omega)).symm, hMS⟩ | exact hQ _ _ ⟨(h2 (by omega)).symm, hMS⟩
    · simp only [lt_i, le_i, eq_i, Int32.reduceToInt] at c_40
      refine jr_iload_n dX9_listen_43 rfl ?_
      refine jr_goto 49 dX9_listen_44 (by decide) ?_
      refine jr_iret rfl dX9_listen_49 ?_
      have hMS : MS w w_34 s := ⟨by rw [hr5, hr, lbR_go s n hc], (hS.mono (fun _ q => scB_P q)).tr (hS5.mono (fun i q => by unfold scP; omega))⟩
      first | exact hQ _ _ ⟨(h1 (by omega)).symm, hMS⟩ | exact hQ _ _ ⟨(h2 (by omega)).symm, hMS⟩
  have L : ∀ (f n : Nat) (w1 : Wd), f + n = 61 → Sm scB w w1 → wI w1 79 = goM s n → AllR (wI w1 90) (totT s) → (∀ j, j < 40 → wI w1 91 j = s j) → (∀ j, j < n → lsP s j = false) → RR g RX9 cX9_listen 2 (some .int) "listen" 7 0 0 0 0 10 [some (.ref (gb g + 78)), some (.int (nI n))] [] w1 Q := by
    intro f
    induction f with
    | zero =>
      intro n w1 hn hS hr hA hc hj
      have e : n = 61 := by omega
      subst e
      refine jr_iload_n dX9_listen_10 rfl ?_
      refine jr_bipush (60) dX9_listen_11 (by decide) ?_
      refine jr_icmp_gt 33 dX9_listen_13 (by decide) (fun c_13 => ?_) (fun c_13 => absurd (by decide) c_13)
      exact K33 61 w1 (by omega) (fun h => absurd h (by omega)) (fun _ => by rw [F_listen, fstB_none hj, if_neg (by decide)]) hS hr hc
    | succ f ih =>
      intro n w1 hn hS hr hA hc hj
      have hw1 := hS.wf hw
      have hGn := hG2 n (by omega)
      refine jr_iload_n dX9_listen_10 rfl ?_
      refine jr_bipush (60) dX9_listen_11 (by decide) ?_
      refine jr_icmp_gt 33 dX9_listen_13 (by decide) (fun c_13 => absurd c_13 (nI_nlt (a := 60) (by omega) (by omega))) (fun c_13 => ?_)
      refine jr_aload_n dX9_listen_16 rfl ?_
      refine jc_Vi (c_misSure g _ hw1 _ hr hGn _ (tot_1000 hG) hA) lkX9_167 (hw1.k rfl) rfl rfl (Nat.le_of_ble_eq_true rfl) (Nat.le_of_ble_eq_true rfl) dX9_listen_17 (fun r_17 w_17 h_17 => ?_)
      obtain ⟨rfl, rfl⟩ := h_17
      refine jr_if_ne 33 dX9_listen_20 (by decide) (fun c_20 => ?_) (fun c_20 => ?_)
      · rw [jb_1] at c_20
        have hp : lsP s n = true := by unfold lsP; rw [decide_eq_true_eq]; exact c_20
        exact K33 n _ (by omega) (fun _ => by rw [F_listen, fstB_at hj hp (n := 61) (by omega), if_pos (by omega)]) (fun h => absurd h (by omega)) hS hr hc
      · rw [jb_0] at c_20
        have hp : lsP s n = false := by unfold lsP; rw [decide_eq_false_iff_not]; exact c_20
        refine jr_aload_n dX9_listen_23 rfl ?_
        refine jc_Vv (c_goesOn g _ hw1 _ hr hGn) lkX9_144 (hw1.k rfl) rfl rfl (Nat.le_of_ble_eq_true rfl) (Nat.le_of_ble_eq_true rfl) dX9_listen_24 (fun w_24 h_24 => ?_)
        obtain ⟨hr2, hS2⟩ := h_24
        refine jr_iinc_1 (nI (n + 1)) dX9_listen_27 (inc1 n) (by decide) rfl ?_
        refine jr_goto 10 dX9_listen_30 (by decide) ?_
        refine ih (n + 1) _ (by omega) (hS.tr (hS2.mono (fun _ q => scS_B q))) hr2 ?_ (fun j hj2 => ?_) (fun j hj2 => ?_)
        · rw [hS2.row (scS_n (by decide) (by decide))]; exact hA
        · rw [hS2.row (scS_n (by decide) (by decide))]; exact hc j hj2
        · by_cases e : j = n
          · rw [e]; exact hp
          · exact hj j (by omega)
  refine jr_aload_n dX9_listen_0 rfl ?_
  refine jc_Vv (c_findAll g _ hw s hs hG) lkX9_161 (hw.k rfl) rfl rfl (Nat.le_of_ble_eq_true rfl) (Nat.le_of_ble_eq_true rfl) dX9_listen_1 (fun w_1 h_1 => ?_)
  obtain ⟨hA, hS1⟩ := h_1
  have hw1 := hS1.wf hw
  have hs1 : wI w_1 79 = s := (hS1.row (scA_n (by decide))).trans hs
  refine jr_aload_n dX9_listen_4 rfl ?_
  refine jc_Vv (c_laysBy g _ hw1) lkX9_185 (hw1.k rfl) rfl rfl (Nat.le_of_ble_eq_true rfl) (Nat.le_of_ble_eq_true rfl) dX9_listen_5 (fun w_5 h_5 => ?_)
  obtain ⟨hc, hS2⟩ := h_5
  refine jr_iconst (0) dX9_listen_8 (by decide) ?_
  refine jr_istore_1 dX9_listen_9 (by decide) rfl ?_
  exact L 61 0 _ rfl ((hS1.mono (fun _ q => scA_B q)).tr (hS2.mono (fun i q => by unfold scB; omega))) ((hS2.row (by decide)).trans hs1) (by rw [hS2.row (by decide)]; exact hA) (fun j hj => by rw [hc j hj, hs1]) (fun j hj => absurd hj (by omega))
theorem m_fee (g : Cx) (w : Wd) (hw : Wf w) (s : Nat → Int32) (hs : wI w 79 = s) (hG : Gd s) : CI g yX9_fee cX9_fee 2 (some .int) 3 0 0 [.ref (gb g + 78)] w (fun r w' => r = F_fee s ∧ MS w w' s) := by
  obtain ⟨-, hT, -, -, -, -, -, -, hX⟩ := id hG
  have hn : sN s 1 ≤ 14 := hT.2
  refine CI.of (own := RX9) (nm := "fee") (lv := [some (.ref (gb g + 78)), none]) (by decide) rfl rfl (Nat.le_of_ble_eq_true rfl) rfl (fun Q hQ => ?_)
  rcases cnt_rng s 1 (sN s 1) (by omega) with e | ⟨t, ht, e, hkey⟩
  · refine jr_aload_n dX9_fee_0 rfl ?_
    refine jr_iconst (1) dX9_fee_1 (by decide) ?_
    refine jc_Vi (c_counts g _ hw (sN s 1) hn (by rw [hs]; exact hT.1) _) lkX9_92 (hw.k rfl) rfl rfl (Nat.le_of_ble_eq_true rfl) (Nat.le_of_ble_eq_true rfl) dX9_fee_2 (fun r_2 w_2 h_2 => ?_)
    obtain ⟨rfl, rfl⟩ := h_2
    rw [hs, e]
    refine jr_istore_1 dX9_fee_5 (by decide) rfl ?_
    refine jr_iload_n dX9_fee_6 rfl ?_
    refine jr_if_ge 17 dX9_fee_7 (by decide) (fun c_7 => absurd c_7 (by decide)) (fun c_7 => ?_)
    refine jr_aload_n dX9_fee_10 rfl ?_
    refine gfX9_7 79 dX9_fee_11 (hw.k rfl) (hw.f rfl) ?_
    refine jr_iconst (3) dX9_fee_14 (by decide) ?_
    refine jr_iald 3 (hw.k rfl) rfl (by decide) dX9_fee_15 ?_
    refine jr_iret rfl dX9_fee_16 ?_
    exact hQ _ _ ⟨by rw [F_fee, if_pos (by rw [e]; decide), hs], MS.rf hs⟩
  · have hTx := hX t ht
    have h0 : sN s (40 + 200 * t) = 1 := sN_of hkey (by decide)
    have hv : ∀ p : Nat → Int32, evF s t (fun v => upd (upd p 101 (s 3)) 109 (s 4) v.toNatClampNeg) = evF s t (nmF (s 3) (s 4)) := fun p => by
      refine ev_congr hTx (fun v hv => ?_)
      rw [h0] at hv
      rcases hv with ⟨h9, -⟩ | ⟨-, rfl | rfl⟩ | ⟨h9, -⟩
      · cases h9
      · rfl
      · rfl
      · cases h9
    refine jr_aload_n dX9_fee_0 rfl ?_
    refine jr_iconst (1) dX9_fee_1 (by decide) ?_
    refine jc_Vi (c_counts g _ hw (sN s 1) hn (by rw [hs]; exact hT.1) _) lkX9_92 (hw.k rfl) rfl rfl (Nat.le_of_ble_eq_true rfl) (Nat.le_of_ble_eq_true rfl) dX9_fee_2 (fun r_2 w_2 h_2 => ?_)
    obtain ⟨rfl, rfl⟩ := h_2
    rw [hs, e]
    refine jr_istore_1 dX9_fee_5 (by decide) rfl ?_
    refine jr_iload_n dX9_fee_6 rfl ?_
    refine jr_if_ge 17 dX9_fee_7 (by decide) (fun c_7 => ?_) (fun c_7 => absurd (nI_pos' (by omega)) c_7)
    refine jr_aload_n dX9_fee_17 rfl ?_
    refine gfX9_52 93 dX9_fee_18 (hw.k rfl) (hw.f rfl) ?_
    refine jr_bipush (101) dX9_fee_21 (by decide) ?_
    refine jr_aload_n dX9_fee_23 rfl ?_
    refine gfX9_7 79 dX9_fee_24 (hw.k rfl) (hw.f rfl) ?_
    refine jr_iconst (3) dX9_fee_27 (by decide) ?_
    refine jr_iald 3 (hw.k rfl) rfl (by decide) dX9_fee_28 ?_
    refine jr_iast 101 (hw.k rfl) rfl (by decide) dX9_fee_29 ?_
    refine jr_aload_n dX9_fee_30 rfl ?_
    refine gfX9_52 93 dX9_fee_31 (hw.k rfl) (hw.f rfl) ?_
    refine jr_bipush (109) dX9_fee_34 (by decide) ?_
    refine jr_aload_n dX9_fee_36 rfl ?_
    refine gfX9_7 79 dX9_fee_37 (hw.k rfl) (hw.f rfl) ?_
    refine jr_iconst (4) dX9_fee_40 (by decide) ?_
    refine jr_iald 4 (hw.k rfl) rfl (by decide) dX9_fee_41 ?_
    refine jr_iast 109 (hw.k rfl) rfl (by decide) dX9_fee_42 ?_
    refine jr_aload_n dX9_fee_43 rfl ?_
    refine jr_iload_n dX9_fee_44 rfl ?_
    refine jc_Vi (c_worked g _ (by exact hw) s (by simp only [wI_sR]; exact hs) t (by omega) hTx) lkX9_96 (hw.k rfl) rfl rfl (Nat.le_of_ble_eq_true rfl) (Nat.le_of_ble_eq_true rfl) dX9_fee_45 (fun r_45 w_45 h_45 => ?_)
    obtain ⟨rfl, hS⟩ := h_45
    refine jr_iret rfl dX9_fee_48 ?_
    refine hQ _ _ ⟨?_, ⟨by rw [hS.row (by decide)]; simp only [wI_sR]; exact hs, (((Sm.sR (S := scP) (by unfold scP; omega)).tr (Sm.sR (by unfold scP; omega))).tr (hS.mono (fun i q => by unfold scP; omega)))⟩⟩
    simp only [wI_sR_s, wI_sR_n _ (show 79 ≠ 93 by decide), hs]
    rw [hv, F_fee, if_neg (by rw [e]; have := i_nI (n := t) (by omega); omega), e, nI_clamp (by omega)]
theorem m_fine (g : Cx) (w : Wd) (hw : Wf w) (s : Nat → Int32) (hs : wI w 79 = s) (hG : Gd s) (c : Int32) : CI g yX9_fine cX9_fine 3 (some .int) 3 0 0 [.ref (gb g + 78), .int c] w (fun r w' => r = F_fine s c ∧ MS w w' s) := by
  obtain ⟨h0, hT, -, -, -, -, -, -, hX⟩ := id hG
  have h6 := h0.2
  have hn : sN s 1 ≤ 14 := hT.2
  refine CI.of (own := RX9) (nm := "fine") (lv := [some (.ref (gb g + 78)), some (.int c), none]) (by decide) rfl rfl (Nat.le_of_ble_eq_true rfl) rfl (fun Q hQ => ?_)
  by_cases hc : isC s c
  · obtain ⟨k, hk, ec⟩ := i_of hc.1 hc.2
    subst ec
    rcases cnt_rng s 2 (sN s 1) (by omega) with e | ⟨t, ht, e, hkey⟩
    · refine jr_aload_n dX9_fine_0 rfl ?_
      refine jr_iload_n dX9_fine_1 rfl ?_
      refine jc_Vi (c_isClock g _ hw _ (sN s 0) h6 (by rw [hs]; exact h0.1)) lkX9_107 (hw.k rfl) rfl rfl (Nat.le_of_ble_eq_true rfl) (Nat.le_of_ble_eq_true rfl) dX9_fine_2 (fun r_2 w_2 h_2 => ?_)
      obtain ⟨rfl, rfl⟩ := h_2
      refine jr_if_ne 11 dX9_fine_5 (by decide) (fun c_5 => ?_) (fun c_5 => absurd c_5 (jb_1.mpr hc))
      refine jr_aload_n dX9_fine_11 rfl ?_
      refine jr_iconst (2) dX9_fine_12 (by decide) ?_
      refine jc_Vi (c_counts g _ hw (sN s 1) hn (by rw [hs]; exact hT.1) _) lkX9_92 (hw.k rfl) rfl rfl (Nat.le_of_ble_eq_true rfl) (Nat.le_of_ble_eq_true rfl) dX9_fine_13 (fun r_13 w_13 h_13 => ?_)
      obtain ⟨rfl, rfl⟩ := h_13
      rw [hs, e]
      refine jr_istore_2 dX9_fine_16 (by decide) rfl ?_
      refine jr_iload_n dX9_fine_17 rfl ?_
      refine jr_if_ge 28 dX9_fine_18 (by decide) (fun c_18 => absurd c_18 (by decide)) (fun c_18 => ?_)
      refine jr_aload_n dX9_fine_21 rfl ?_
      refine jr_iload_n dX9_fine_22 rfl ?_
      refine jr_iconst (1) dX9_fine_23 (by decide) ?_
      refine jc_Vi (c_of g _ hw k 1 (by omega) (by decide)) lkX9_88 (hw.k rfl) rfl rfl (Nat.le_of_ble_eq_true rfl) (Nat.le_of_ble_eq_true rfl) dX9_fine_24 (fun r_24 w_24 h_24 => ?_)
      obtain ⟨rfl, rfl⟩ := h_24
      refine jr_iret rfl dX9_fine_27 ?_
      exact hQ _ _ ⟨by rw [F_fine, if_pos hc, if_pos (by rw [e]; decide), nI_clamp (by omega), hs], MS.rf hs⟩
    · have hTx := hX t ht
      have hk2 : sN s (40 + 200 * t) = 2 := sN_of hkey (by decide)
      have hv : ∀ (p : Nat → Int32) (a b : Int32), evF s t (fun v => upd (upd p 111 a) 116 b v.toNatClampNeg) = evF s t (nmI a b) := fun p a b => by
        refine ev_congr hTx (fun v hv => ?_)
        rw [hk2] at hv
        rcases hv with ⟨h9, -⟩ | ⟨h9, -⟩ | ⟨-, rfl | rfl⟩
        · cases h9
        · cases h9
        · rfl
        · rfl
      refine jr_aload_n dX9_fine_0 rfl ?_
      refine jr_iload_n dX9_fine_1 rfl ?_
      refine jc_Vi (c_isClock g _ hw _ (sN s 0) h6 (by rw [hs]; exact h0.1)) lkX9_107 (hw.k rfl) rfl rfl (Nat.le_of_ble_eq_true rfl) (Nat.le_of_ble_eq_true rfl) dX9_fine_2 (fun r_2 w_2 h_2 => ?_)
      obtain ⟨rfl, rfl⟩ := h_2
      refine jr_if_ne 11 dX9_fine_5 (by decide) (fun c_5 => ?_) (fun c_5 => absurd c_5 (jb_1.mpr hc))
      refine jr_aload_n dX9_fine_11 rfl ?_
      refine jr_iconst (2) dX9_fine_12 (by decide) ?_
      refine jc_Vi (c_counts g _ hw (sN s 1) hn (by rw [hs]; exact hT.1) _) lkX9_92 (hw.k rfl) rfl rfl (Nat.le_of_ble_eq_true rfl) (Nat.le_of_ble_eq_true rfl) dX9_fine_13 (fun r_13 w_13 h_13 => ?_)
      obtain ⟨rfl, rfl⟩ := h_13
      rw [hs, e]
      refine jr_istore_2 dX9_fine_16 (by decide) rfl ?_
      refine jr_iload_n dX9_fine_17 rfl ?_
      refine jr_if_ge 28 dX9_fine_18 (by decide) (fun c_18 => ?_) (fun c_18 => absurd (nI_pos' (by omega)) c_18)
      refine jr_aload_n dX9_fine_28 rfl ?_
      refine gfX9_52 93 dX9_fine_29 (hw.k rfl) (hw.f rfl) ?_
      refine jr_bipush (111) dX9_fine_32 (by decide) ?_
      refine jr_aload_n dX9_fine_34 rfl ?_
      refine jr_iload_n dX9_fine_35 rfl ?_
      refine jr_iconst (1) dX9_fine_36 (by decide) ?_
      refine jc_Vi (c_of g _ hw k 1 (by omega) (by decide)) lkX9_88 (hw.k rfl) rfl rfl (Nat.le_of_ble_eq_true rfl) (Nat.le_of_ble_eq_true rfl) dX9_fine_37 (fun r_37 w_37 h_37 => ?_)
      obtain ⟨rfl, rfl⟩ := h_37
      refine jr_iast 111 (hw.k rfl) rfl (by decide) dX9_fine_40 ?_
      refine jr_aload_n dX9_fine_41 rfl ?_
      refine gfX9_52 93 dX9_fine_42 (hw.k rfl) (hw.f rfl) ?_
      refine jr_bipush (116) dX9_fine_45 (by decide) ?_
      refine jr_aload_n dX9_fine_47 rfl ?_
      refine jr_iload_n dX9_fine_48 rfl ?_
      refine jr_iconst (2) dX9_fine_49 (by decide) ?_
      refine jc_Vi (c_of g _ (by exact hw) k 2 (by omega) (by decide)) lkX9_88 (hw.k rfl) rfl rfl (Nat.le_of_ble_eq_true rfl) (Nat.le_of_ble_eq_true rfl) dX9_fine_50 (fun r_50 w_50 h_50 => ?_)
      obtain ⟨rfl, rfl⟩ := h_50
      refine jr_iast 116 (hw.k rfl) rfl (by decide) dX9_fine_53 ?_
      refine jr_aload_n dX9_fine_54 rfl ?_
      refine jr_iload_n dX9_fine_55 rfl ?_
      refine jc_Vi (c_worked g _ (by exact hw) s (by simp only [wI_sR]; exact hs) t (by omega) hTx) lkX9_96 (hw.k rfl) rfl rfl (Nat.le_of_ble_eq_true rfl) (Nat.le_of_ble_eq_true rfl) dX9_fine_56 (fun r_56 w_56 h_56 => ?_)
      obtain ⟨rfl, hS⟩ := h_56
      refine jr_iret rfl dX9_fine_59 ?_
      refine hQ _ _ ⟨?_, ⟨by rw [hS.row (by decide)]; simp only [wI_sR]; exact hs, (((Sm.sR (S := scP) (by unfold scP; omega)).tr (Sm.sR (by unfold scP; omega))).tr (hS.mono (fun i q => by unfold scP; omega)))⟩⟩
      simp only [wI_sR_s, wI_sR_n _ (show 79 ≠ 93 by decide), hs]
      rw [hv, F_fine, if_pos hc, if_neg (by rw [e]; have := i_nI (n := t) (by omega); omega), e, nI_clamp (by omega), nI_clamp (by omega)]
  · refine jr_aload_n dX9_fine_0 rfl ?_
    refine jr_iload_n dX9_fine_1 rfl ?_
    refine jc_Vi (c_isClock g _ hw _ (sN s 0) h6 (by rw [hs]; exact h0.1)) lkX9_107 (hw.k rfl) rfl rfl (Nat.le_of_ble_eq_true rfl) (Nat.le_of_ble_eq_true rfl) dX9_fine_2 (fun r_2 w_2 h_2 => ?_)
    obtain ⟨rfl, rfl⟩ := h_2
    refine jr_if_ne 11 dX9_fine_5 (by decide) (fun c_5 => absurd (jb_f hc) c_5) (fun c_5 => ?_)
    refine jr_ldc (-1000000001) ckX9_83 dX9_fine_8 ?_
    refine jr_iret rfl dX9_fine_10 ?_
    exact hQ _ _ ⟨by rw [F_fine, if_neg hc], MS.rf hs⟩
theorem m_why (g : Cx) (w : Wd) (hw : Wf w) (s : Nat → Int32) (hs : wI w 79 = s) (hG : Gd s) (x : Int32) : CI g yX9_why cX9_why 2 (some .int) 3 0 0 [.ref (gb g + 78), .int x] w (fun r w' => r = F_why s x ∧ MS w w' s) := by
  obtain ⟨-, hT, -⟩ := id hG
  refine CI.of (own := RX9) (nm := "why") (lv := [some (.ref (gb g + 78)), some (.int x)]) (by decide) rfl rfl (Nat.le_of_ble_eq_true rfl) rfl (fun Q hQ => ?_)
  refine jr_iload_n dX9_why_0 rfl ?_
  refine jr_i2l dX9_why_1 ?_
  refine jr_lconst 0 dX9_why_2 (by decide) ?_
  refine jr_ldc2 (2) ckX9_129 dX9_why_3 ?_
  refine jc_Si (c_isInI g _ _ _ _) lkX9_68 rfl rfl (Nat.le_of_ble_eq_true rfl) (Nat.le_of_ble_eq_true rfl) dX9_why_6 (fun r_6 w_6 h_6 => ?_)
  obtain ⟨rfl, rfl⟩ := h_6
  refine jr_if_eq 23 dX9_why_9 (by decide) (fun c_9 => ?_) (fun c_9 => ?_)
  · rw [jb_0] at c_9
    simp only [Int64.reduceToInt] at c_9
    refine jr_ldc (-1000000001) ckX9_83 dX9_why_23 ?_
    refine jr_iret rfl dX9_why_25 ?_
    first | exact hQ _ _ ⟨by rw [F_why, if_neg (show ¬ inR x 0 2 by unfold inR; omega)], MS.rf hs⟩ | exact hQ _ _ ⟨by rw [F_why, if_pos (show inR x 0 2 by unfold inR; omega)], MS.rf hs⟩
  · rw [jb_1] at c_9
    simp only [Int64.reduceToInt] at c_9
    refine jr_aload_n dX9_why_12 rfl ?_
    refine jr_iload_n dX9_why_13 rfl ?_
    refine jc_Vi (c_counts g _ hw (sN s 1) hT.2 (by rw [hs]; exact hT.1) _) lkX9_92 (hw.k rfl) rfl rfl (Nat.le_of_ble_eq_true rfl) (Nat.le_of_ble_eq_true rfl) dX9_why_14 (fun r_14 w_14 h_14 => ?_)
    obtain ⟨rfl, rfl⟩ := h_14
    rw [hs]
    refine jc_Si (c_orNone g _ _) lkX9_289 rfl rfl (Nat.le_of_ble_eq_true rfl) (Nat.le_of_ble_eq_true rfl) dX9_why_17 (fun r_17 w_17 h_17 => ?_)
    obtain ⟨rfl, rfl⟩ := h_17
    refine jr_goto 25 dX9_why_20 (by decide) ?_
    refine jr_iret rfl dX9_why_25 ?_
    first | exact hQ _ _ ⟨by rw [F_why, if_neg (show ¬ inR x 0 2 by unfold inR; omega)], MS.rf hs⟩ | exact hQ _ _ ⟨by rw [F_why, if_pos (show inR x 0 2 by unfold inR; omega)], MS.rf hs⟩
theorem m_textTold (g : Cx) (w : Wd) (hw : Wf w) (s : Nat → Int32) (hs : wI w 79 = s) (hG : Gd s) (t x : Int32) : CI g yX9_textTold cX9_textTold 3 (some .int) 3 0 0 [.ref (gb g + 78), .int t, .int x] w (fun r w' => r = F_textTold s t x ∧ MS w w' s) := by
  obtain ⟨-, hT, -⟩ := id hG
  have h14 := hT.2
  refine CI.of (own := RX9) (nm := "textTold") (lv := [some (.ref (gb g + 78)), some (.int t), some (.int x)]) (by decide) rfl rfl (Nat.le_of_ble_eq_true rfl) rfl (fun Q hQ => ?_)
  refine jr_aload_n dX9_textTold_0 rfl ?_
  refine jr_iload_n dX9_textTold_1 rfl ?_
  refine jc_Vi (c_isText g _ hw _ (sN s 1) hT.2 (by rw [hs]; exact hT.1)) lkX9_286 (hw.k rfl) rfl rfl (Nat.le_of_ble_eq_true rfl) (Nat.le_of_ble_eq_true rfl) dX9_textTold_2 (fun r_2 w_2 h_2 => ?_)
  obtain ⟨rfl, rfl⟩ := h_2
  refine jr_if_eq 18 dX9_textTold_5 (by decide) (fun c_5 => ?_) (fun c_5 => ?_)
  · rw [jb_0] at c_5
    refine jr_ldc (-1000000001) ckX9_83 dX9_textTold_18 ?_
    refine jr_iret rfl dX9_textTold_20 ?_
    exact hQ _ _ ⟨by rw [F_textTold, if_neg (by unfold inR; omega)], MS.rf hs⟩
  · rw [jb_1] at c_5
    obtain ⟨k, hk, et⟩ := i_of c_5.1 c_5.2
    subst et
    refine jr_iload_n dX9_textTold_8 rfl ?_
    refine jr_i2l dX9_textTold_9 ?_
    refine jr_lconst 0 dX9_textTold_10 (by decide) ?_
    refine jr_lconst 1 dX9_textTold_11 (by decide) ?_
    refine jc_Si (c_isInI g _ _ _ _) lkX9_68 rfl rfl (Nat.le_of_ble_eq_true rfl) (Nat.le_of_ble_eq_true rfl) dX9_textTold_12 (fun r_12 w_12 h_12 => ?_)
    obtain ⟨rfl, rfl⟩ := h_12
    refine jr_if_ne 21 dX9_textTold_15 (by decide) (fun c_15 => ?_) (fun c_15 => ?_)
    · rw [jb_1] at c_15
      simp only [Int64.reduceToInt] at c_15
      obtain ⟨y, hy, ey⟩ := i_of (n := 2) (x := x) c_15.1 (by omega)
      subst ey
      refine jr_aload_n dX9_textTold_21 rfl ?_
      refine gfX9_7 79 dX9_textTold_22 (hw.k rfl) (hw.f rfl) ?_
      refine jr_aload_n dX9_textTold_25 rfl ?_
      refine jr_iload_n dX9_textTold_26 rfl ?_
      refine jc_Vi (c_mtextAt g _ k) lkX9_277 (hw.k rfl) rfl rfl (Nat.le_of_ble_eq_true rfl) (Nat.le_of_ble_eq_true rfl) dX9_textTold_27 (fun r_27 w_27 h_27 => ?_)
      obtain ⟨rfl, rfl⟩ := h_27
      refine jr_iload_n dX9_textTold_30 rfl ?_
      refine jr_iadd dX9_textTold_31 ?_
      refine jr_iald (40 + 200 * k + y) (hw.k rfl) (nI_add _ _) ⟨by omega, by decide⟩ dX9_textTold_32 ?_
      refine jr_iret rfl dX9_textTold_33 ?_
      exact hQ _ _ ⟨by rw [F_textTold, if_pos (by unfold inR; omega), nI_clamp (by omega), nI_clamp (by omega), hs], MS.rf hs⟩
    · rw [jb_0] at c_15
      simp only [Int64.reduceToInt] at c_15
      refine jr_ldc (-1000000001) ckX9_83 dX9_textTold_18 ?_
      refine jr_iret rfl dX9_textTold_20 ?_
      exact hQ _ _ ⟨by rw [F_textTold, if_neg (by unfold inR; omega)], MS.rf hs⟩
