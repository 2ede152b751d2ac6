-- the reference: numbers that wait, the tape, slots, images
theorem c_isSheet (g : Cx) (w : Wd) (x : Int32) : CI g yX9_isSheet cX9_isSheet 1 (some .boolean) 2 0 0 [.int x] w (fun r w' => r = jb (0 ≤ x.toInt ∧ x.toInt < 4) ∧ w = w') := by
  refine CI.of (own := RX9) (nm := "isSheet") (lv := [some (.int x)]) (by decide) rfl rfl (Nat.le_of_ble_eq_true rfl) rfl (fun Q hQ => ?_)
  refine jr_iload_n dX9_isSheet_0 rfl ?_
  refine jr_i2l dX9_isSheet_1 ?_
  refine jr_lconst 0 dX9_isSheet_2 (by decide) ?_
  refine jr_ldc2 (3) ckX9_151 dX9_isSheet_3 ?_
  refine jc_Si (c_isInI g _ _ _ _) lkX9_68 rfl rfl (Nat.le_of_ble_eq_true rfl) (Nat.le_of_ble_eq_true rfl) dX9_isSheet_6 (fun r_6 w_6 h_6 => ?_)
  obtain ⟨rfl, rfl⟩ := h_6
  refine jr_zret rfl jb_n dX9_isSheet_9 ?_
  refine hQ _ _ ⟨?_, rfl⟩
  simp only [jb, Int64.reduceToInt]
  split <;> split <;> first | rfl | omega
theorem c_isSlot (g : Cx) (w : Wd) (x : Int32) : CI g yX9_isSlot cX9_isSlot 1 (some .boolean) 2 0 0 [.int x] w (fun r w' => r = jb (0 ≤ x.toInt ∧ x.toInt < 5) ∧ w = w') := by
  refine CI.of (own := RX9) (nm := "isSlot") (lv := [some (.int x)]) (by decide) rfl rfl (Nat.le_of_ble_eq_true rfl) rfl (fun Q hQ => ?_)
  refine jr_iload_n dX9_isSlot_0 rfl ?_
  refine jr_i2l dX9_isSlot_1 ?_
  refine jr_lconst 0 dX9_isSlot_2 (by decide) ?_
  refine jr_ldc2 (4) ckX9_307 dX9_isSlot_3 ?_
  refine jc_Si (c_isInI g _ _ _ _) lkX9_68 rfl rfl (Nat.le_of_ble_eq_true rfl) (Nat.le_of_ble_eq_true rfl) dX9_isSlot_6 (fun r_6 w_6 h_6 => ?_)
  obtain ⟨rfl, rfl⟩ := h_6
  refine jr_zret rfl jb_n dX9_isSlot_9 ?_
  refine hQ _ _ ⟨?_, rfl⟩
  simp only [jb, Int64.reduceToInt]
  split <;> split <;> first | rfl | omega
theorem m_tell (g : Cx) (w : Wd) (hw : Wf w) (n : Nat) (hn : n ≤ 60) (h0 : wI w 78 30 = nI n) (v : Int32) : CI g yX9_tell cX9_tell 2 (some .int) 1 0 0 [.ref (gb g + 78), .int v] w (fun r w' => (n = 60 ∧ r = -1000000003 ∧ w = w') ∨ (n < 60 ∧ r = nI (n + 1) ∧ w' = sR (sR w 96 (upd (wI w 96) n v)) 78 (upd (wI w 78) 30 (nI (n + 1))))) := by
  have en := i_nI (n := n) (by omega)
  refine CI.of (own := RX9) (nm := "tell") (lv := [some (.ref (gb g + 78)), some (.int v)]) (by decide) rfl rfl (Nat.le_of_ble_eq_true rfl) rfl (fun Q hQ => ?_)
  refine jr_aload_n dX9_tell_0 rfl ?_
  refine gfX9_313 dX9_tell_1 (hw.k rfl) ?_
  rw [h0]
  refine jr_bipush (60) dX9_tell_4 (by decide) ?_
  refine jr_icmp_ne 12 dX9_tell_6 (by decide) (fun c_6 => ?_) (fun c_6 => ?_)
  · simp only [lt_i, le_i, eq_i, Int32.reduceToInt] at c_6
    refine jr_aload_n dX9_tell_12 rfl ?_
    refine gfX9_61 96 dX9_tell_13 (hw.k rfl) (hw.f rfl) ?_
    refine jr_aload_n dX9_tell_16 rfl ?_
    refine gfX9_313 dX9_tell_17 (hw.k rfl) ?_
    rw [h0]
    refine jr_iload_n dX9_tell_20 rfl ?_
    refine jr_iast n (hw.k rfl) rfl ⟨by omega, by decide⟩ dX9_tell_21 ?_
    refine jr_aload_n dX9_tell_22 rfl ?_
    refine jr_dup dX9_tell_23 rfl ?_
    refine gfX9_313 dX9_tell_24 (hw.k rfl) ?_
    rw [wI_sR_n _ (show 78 ≠ 96 by decide), h0]
    refine jr_iconst (1) dX9_tell_27 (by decide) ?_
    refine jr_iadd dX9_tell_28 ?_
    rw [nI_1]
    refine pfX9_313 dX9_tell_29 (hw.k rfl) ?_
    refine jr_aload_n dX9_tell_32 rfl ?_
    refine gfX9_313 dX9_tell_33 (hw.k rfl) ?_
    refine jr_iret rfl dX9_tell_36 ?_
    exact hQ _ _ (Or.inr ⟨by omega, by rw [wI_sR_s, wI_sR_n _ (show 78 ≠ 96 by decide), pk_us], by rw [wI_sR_n _ (show 78 ≠ 96 by decide)]⟩)
  · simp only [lt_i, le_i, eq_i, Int32.reduceToInt] at c_6
    refine jr_ldc (-1000000003) ckX9_84 dX9_tell_9 ?_
    refine jr_iret rfl dX9_tell_11 ?_
    exact hQ _ _ (Or.inl ⟨by omega, rfl, rfl⟩)
theorem m_trim (g : Cx) (w : Wd) (hw : Wf w) (n : Nat) (hn : n ≤ 96) (h0 : wI w 78 15 = nI n) (v : Int32) : CI g yX9_trim cX9_trim 2 (some .int) 2 0 0 [.ref (gb g + 78), .int v] w (fun r w' => (¬ inR v 0 n ∧ r = -1000000001 ∧ w = w') ∨ (inR v 0 n ∧ r = v ∧ w' = sR w 78 (upd (wI w 78) 15 v))) := by
  have en := i_nI (n := n) (by omega)
  refine CI.of (own := RX9) (nm := "trim") (lv := [some (.ref (gb g + 78)), some (.int v)]) (by decide) rfl rfl (Nat.le_of_ble_eq_true rfl) rfl (fun Q hQ => ?_)
  refine jr_iload_n dX9_trim_0 rfl ?_
  refine jr_i2l dX9_trim_1 ?_
  refine jr_lconst 0 dX9_trim_2 (by decide) ?_
  refine jr_aload_n dX9_trim_3 rfl ?_
  refine gfX9_191 dX9_trim_4 (hw.k rfl) ?_
  rw [h0]
  refine jr_i2l dX9_trim_7 ?_
  refine jc_Si (c_isInI g _ _ _ _) lkX9_68 rfl rfl (Nat.le_of_ble_eq_true rfl) (Nat.le_of_ble_eq_true rfl) dX9_trim_8 (fun r_8 w_8 h_8 => ?_)
  obtain ⟨rfl, rfl⟩ := h_8
  refine jr_if_ne 17 dX9_trim_11 (by decide) (fun c_11 => ?_) (fun c_11 => ?_)
  · rw [jb_1] at c_11
    simp only [Int64.reduceToInt] at c_11
    rw [l_of_i] at c_11
    refine jr_aload_n dX9_trim_17 rfl ?_
    refine jr_iload_n dX9_trim_18 rfl ?_
    refine pfX9_191 dX9_trim_19 (hw.k rfl) ?_
    refine jr_iload_n dX9_trim_22 rfl ?_
    refine jr_iret rfl dX9_trim_23 ?_
    exact hQ _ _ (Or.inr ⟨by unfold inR; omega, rfl, rfl⟩)
  · rw [jb_0] at c_11
    simp only [Int64.reduceToInt] at c_11
    rw [l_of_i] at c_11
    refine jr_ldc (-1000000001) ckX9_83 dX9_trim_14 ?_
    refine jr_iret rfl dX9_trim_16 ?_
    exact hQ _ _ (Or.inl ⟨by unfold inR; omega, rfl, rfl⟩)
def asR (f t : Nat → Int32) : Nat → Int32 := fun j => if j < 2840 then f j else t j
theorem c_setAside (g : Cx) (w : Wd) (hw : Wf w) (a b : Nat) (ha : jK w a 11 3040) (hb : jK w b 11 3040) (hab : a ≠ b) : CV g yX9_setAside cX9_setAside 4 1 0 0 [.ref (gb g + 78), .ref (gb g + a), .ref (gb g + b)] w (fun w' => w' = sR w b (asR (wI w a) (wI w b))) := by
  refine CV.of (own := RX9) (nm := "setAside") (lv := [some (.ref (gb g + 78)), some (.ref (gb g + a)), some (.ref (gb g + b)), none]) (by decide) rfl rfl (Nat.le_of_ble_eq_true rfl) rfl (fun Q hQ => ?_)
  have L : ∀ (f k : Nat) (r : Nat → Int32), f + k = 2840 → (∀ j, j < k → r j = wI w a j) → (∀ j, k ≤ j → r j = wI w b j) → RR g RX9 cX9_setAside 4 none "setAside" 1 0 0 0 0 2 [some (.ref (gb g + 78)), some (.ref (gb g + a)), some (.ref (gb g + b)), some (.int (nI k))] [] (sR w b r) Q := by
    intro f
    induction f with
    | zero =>
      intro k r hk h1 h2
      have e : k = 2840 := by omega
      subst e
      refine jr_iload_n dX9_setAside_2 rfl ?_
      refine jr_sipush (2840) dX9_setAside_3 (by decide) ?_
      refine jr_icmp_ge 21 dX9_setAside_6 (by decide) (fun c_6 => ?_) (fun c_6 => absurd (by decide) c_6)
      refine jr_vret rfl dX9_setAside_21 ?_
      refine hQ _ ?_
      congr 1
      funext j
      unfold asR
      by_cases h : j < 2840
      · rw [if_pos h, h1 j h]
      · rw [if_neg h, h2 j (by omega)]
    | succ f ih =>
      intro k r hk h1 h2
      refine jr_iload_n dX9_setAside_2 rfl ?_
      refine jr_sipush (2840) dX9_setAside_3 (by decide) ?_
      refine jr_icmp_ge 21 dX9_setAside_6 (by decide) (fun c_6 => absurd c_6 (nI_ge (b := 2840) (by omega) (by omega))) (fun c_6 => ?_)
      refine jr_aload_n dX9_setAside_9 rfl ?_
      refine jr_iload_n dX9_setAside_10 rfl ?_
      refine jr_aload_n dX9_setAside_11 rfl ?_
      refine jr_iload_n dX9_setAside_12 rfl ?_
      refine jr_iald k ha rfl ⟨by omega, by decide⟩ dX9_setAside_13 ?_
      refine jr_iast k hb rfl ⟨by omega, by decide⟩ dX9_setAside_14 ?_
      refine jr_iinc_3 (nI (k + 1)) dX9_setAside_15 (inc1 k) (by decide) rfl ?_
      refine jr_goto 2 dX9_setAside_18 (by decide) ?_
      rw [sR_sR, wI_sR_s, wI_sR_n _ hab]
      refine ih (k + 1) _ (by omega) (fun j hj => ?_) (fun j hj => ?_)
      · by_cases e : j = k
        · rw [e, pk_us]
        · rw [pk_un e, h1 j (by omega)]
      · rw [pk_un (by omega), h2 j (by omega)]
  have h9 := L 2840 0 (wI w b) rfl (fun j hj => absurd hj (by omega)) (fun _ _ => rfl)
  have e9 : sR w b (wI w b) = w := by
    unfold sR
    obtain ⟨w1, w2, w3, w4⟩ := w
    simp only [wI, Prod.mk.injEq, true_and, and_true]
    funext i
    by_cases h : i = b
    · rw [if_pos h, h]
    · rw [if_neg h]
  rw [e9] at h9
  refine jr_iconst (0) dX9_setAside_0 (by decide) ?_
  refine jr_istore_3 dX9_setAside_1 (by decide) rfl ?_
  exact h9
theorem m_keep (g : Cx) (w : Wd) (hw : Wf w) : CI g yX9_keep cX9_keep 1 (some .int) 2 0 0 [.ref (gb g + 78)] w (fun r w' => r = wI w 79 0 ∧ w' = sR (sR w 78 (upd (wI w 78) 3 1)) 80 (asR (wI w 79) (wI w 80))) := by
  refine CI.of (own := RX9) (nm := "keep") (lv := [some (.ref (gb g + 78))]) (by decide) rfl rfl (Nat.le_of_ble_eq_true rfl) rfl (fun Q hQ => ?_)
  refine jr_aload_n dX9_keep_0 rfl ?_
  refine jr_iconst (1) dX9_keep_1 (by decide) ?_
  refine pfX9_318 (by decide) (by decide) dX9_keep_2 (hw.k rfl) ?_
  refine jr_aload_n dX9_keep_5 rfl ?_
  refine jr_aload_n dX9_keep_6 rfl ?_
  refine gfX9_7 79 dX9_keep_7 (hw.k rfl) (hw.f rfl) ?_
  refine jr_aload_n dX9_keep_10 rfl ?_
  refine gfX9_13 80 dX9_keep_11 (hw.k rfl) (hw.f rfl) ?_
  refine jc_Vv (c_setAside g _ (by exact hw) 79 80 (by exact hw.k rfl) (by exact hw.k rfl) (by decide)) lkX9_322 (hw.k rfl) rfl rfl (Nat.le_of_ble_eq_true rfl) (Nat.le_of_ble_eq_true rfl) dX9_keep_14 (fun w_14 h_14 => ?_)
  obtain rfl := h_14
  refine jr_aload_n dX9_keep_17 rfl ?_
  refine gfX9_7 79 dX9_keep_18 (hw.k rfl) (hw.f rfl) ?_
  refine jr_iconst (0) dX9_keep_21 (by decide) ?_
  refine jr_iald 0 (hw.k rfl) rfl (by decide) dX9_keep_22 ?_
  refine jr_iret rfl dX9_keep_23 ?_
  exact hQ _ _ ⟨rfl, rfl⟩
theorem m_back (g : Cx) (w : Wd) (hw : Wf w) : CI g yX9_back cX9_back 1 (some .int) 2 0 0 [.ref (gb g + 78)] w (fun r w' => (wI w 78 3 = 0 ∧ r = -1000000002 ∧ w = w') ∨ (¬ wI w 78 3 = 0 ∧ r = wI w 80 0 ∧ w' = sR w 79 (asR (wI w 80) (wI w 79)))) := by
  refine CI.of (own := RX9) (nm := "back") (lv := [some (.ref (gb g + 78))]) (by decide) rfl rfl (Nat.le_of_ble_eq_true rfl) rfl (fun Q hQ => ?_)
  refine jr_aload_n dX9_back_0 rfl ?_
  refine gfX9_318 dX9_back_1 (hw.k rfl) ?_
  refine jr_if_ne 11 dX9_back_4 (by decide) (fun c_4 => ?_) (fun c_4 => ?_)
  · refine jr_aload_n dX9_back_11 rfl ?_
    refine jr_aload_n dX9_back_12 rfl ?_
    refine gfX9_13 80 dX9_back_13 (hw.k rfl) (hw.f rfl) ?_
    refine jr_aload_n dX9_back_16 rfl ?_
    refine gfX9_7 79 dX9_back_17 (hw.k rfl) (hw.f rfl) ?_
    refine jc_Vv (c_setAside g _ hw 80 79 (hw.k rfl) (hw.k rfl) (by decide)) lkX9_322 (hw.k rfl) rfl rfl (Nat.le_of_ble_eq_true rfl) (Nat.le_of_ble_eq_true rfl) dX9_back_20 (fun w_20 h_20 => ?_)
    obtain rfl := h_20
    refine jr_aload_n dX9_back_23 rfl ?_
    refine gfX9_7 79 dX9_back_24 (hw.k rfl) (hw.f rfl) ?_
    refine jr_iconst (0) dX9_back_27 (by decide) ?_
    refine jr_iald 0 (hw.k rfl) rfl (by decide) dX9_back_28 ?_
    refine jr_iret rfl dX9_back_29 ?_
    exact hQ _ _ (Or.inr ⟨c_4, by rw [wI_sR_s]; exact if_pos (by decide), rfl⟩)
  · refine jr_ldcw (-1000000002) ckX9_312 dX9_back_7 ?_
    refine jr_iret rfl dX9_back_10 ?_
    exact hQ _ _ (Or.inl ⟨c_4, rfl, rfl⟩)
def F_count (s f : Nat → Int32) (x : Int32) : Int32 := if x.toInt = 0 then s 0 else if x.toInt = 1 then s 2 else if x.toInt = 2 then s 6 else if x.toInt = 3 then s 7 else if x.toInt = 4 then s 1 else if x.toInt = 5 then f 30 else if x.toInt = 6 then f 15 else if x.toInt = 7 then s 9 else -1000000001
theorem m_count (g : Cx) (w : Wd) (hw : Wf w) (x : Int32) : CI g yX9_count cX9_count 2 (some .int) 1 0 0 [.ref (gb g + 78), .int x] w (fun r w' => r = F_count (wI w 79) (wI w 78) x ∧ w = w') := by
  refine CI.of (own := RX9) (nm := "count") (lv := [some (.ref (gb g + 78)), some (.int x)]) (by decide) rfl rfl (Nat.le_of_ble_eq_true rfl) rfl (fun Q hQ => ?_)
  refine jr_iload_n dX9_count_0 rfl ?_
  refine swX9_count_1 (fun c_1 => ?_) (fun c_1 => ?_) (fun c_1 => ?_) (fun c_1 => ?_) (fun c_1 => ?_) (fun c_1 => ?_) (fun c_1 => ?_) (fun c_1 => ?_) (fun c_1 => ?_)
  · refine jr_aload_n dX9_count_48 rfl ?_
    refine gfX9_7 79 dX9_count_49 (hw.k rfl) (hw.f rfl) ?_
    refine jr_iconst (0) dX9_count_52 (by decide) ?_
    refine jr_iald 0 (hw.k rfl) rfl (by decide) dX9_count_53 ?_
    refine jr_iret rfl dX9_count_54 ?_
    refine hQ _ _ ⟨?_, rfl⟩
    simp only [F_count, c_1, ne_eq, Int.reduceEq, if_true, if_false]
  · refine jr_aload_n dX9_count_55 rfl ?_
    refine gfX9_7 79 dX9_count_56 (hw.k rfl) (hw.f rfl) ?_
    refine jr_iconst (2) dX9_count_59 (by decide) ?_
    refine jr_iald 2 (hw.k rfl) rfl (by decide) dX9_count_60 ?_
    refine jr_iret rfl dX9_count_61 ?_
    refine hQ _ _ ⟨?_, rfl⟩
    simp only [F_count, c_1, ne_eq, Int.reduceEq, if_true, if_false]
  · refine jr_aload_n dX9_count_62 rfl ?_
    refine gfX9_7 79 dX9_count_63 (hw.k rfl) (hw.f rfl) ?_
    refine jr_bipush (6) dX9_count_66 (by decide) ?_
    refine jr_iald 6 (hw.k rfl) rfl (by decide) dX9_count_68 ?_
    refine jr_iret rfl dX9_count_69 ?_
    refine hQ _ _ ⟨?_, rfl⟩
    simp only [F_count, c_1, ne_eq, Int.reduceEq, if_true, if_false]
  · refine jr_aload_n dX9_count_70 rfl ?_
    refine gfX9_7 79 dX9_count_71 (hw.k rfl) (hw.f rfl) ?_
    refine jr_bipush (7) dX9_count_74 (by decide) ?_
    refine jr_iald 7 (hw.k rfl) rfl (by decide) dX9_count_76 ?_
    refine jr_iret rfl dX9_count_77 ?_
    refine hQ _ _ ⟨?_, rfl⟩
    simp only [F_count, c_1, ne_eq, Int.reduceEq, if_true, if_false]
  · refine jr_aload_n dX9_count_78 rfl ?_
    refine gfX9_7 79 dX9_count_79 (hw.k rfl) (hw.f rfl) ?_
    refine jr_iconst (1) dX9_count_82 (by decide) ?_
    refine jr_iald 1 (hw.k rfl) rfl (by decide) dX9_count_83 ?_
    refine jr_iret rfl dX9_count_84 ?_
    refine hQ _ _ ⟨?_, rfl⟩
    simp only [F_count, c_1, ne_eq, Int.reduceEq, if_true, if_false]
  · refine jr_aload_n dX9_count_85 rfl ?_
    refine gfX9_313 dX9_count_86 (hw.k rfl) ?_
    refine jr_iret rfl dX9_count_89 ?_
    refine hQ _ _ ⟨?_, rfl⟩
    simp only [F_count, c_1, ne_eq, Int.reduceEq, if_true, if_false]
  · refine jr_aload_n dX9_count_90 rfl ?_
    refine gfX9_191 dX9_count_91 (hw.k rfl) ?_
    refine jr_iret rfl dX9_count_94 ?_
    refine hQ _ _ ⟨?_, rfl⟩
    simp only [F_count, c_1, ne_eq, Int.reduceEq, if_true, if_false]
  · refine jr_aload_n dX9_count_95 rfl ?_
    refine gfX9_7 79 dX9_count_96 (hw.k rfl) (hw.f rfl) ?_
    refine jr_bipush (9) dX9_count_99 (by decide) ?_
    refine jr_iald 9 (hw.k rfl) rfl (by decide) dX9_count_101 ?_
    refine jr_iret rfl dX9_count_102 ?_
    refine hQ _ _ ⟨?_, rfl⟩
    simp only [F_count, c_1, ne_eq, Int.reduceEq, if_true, if_false]
  · refine jr_ldc (-1000000001) ckX9_83 dX9_count_103 ?_
    refine jr_iret rfl dX9_count_105 ?_
    refine hQ _ _ ⟨?_, rfl⟩
    simp only [F_count, c_1, ne_eq, Int.reduceEq, if_true, if_false]
def F_rest (hd hn : Nat → Int32) (k n : Int32) : Int32 := if 0 ≤ k.toInt ∧ k.toInt < 5 then (if (hd k.toNatClampNeg).toInt = 3 then (if n = 0 then -1000000002 else rmI (hn k.toNatClampNeg) n) else if (hd k.toNatClampNeg).toInt = 0 then -1000000011 else -1000000012) else -1000000001
theorem m_rest (g : Cx) (w : Wd) (hw : Wf w) (k n : Int32) : CI g yX9_rest cX9_rest 3 (some .int) 3 0 0 [.ref (gb g + 78), .int k, .int n] w (fun r w' => r = F_rest (wI w 85) (wI w 86) k n ∧ w = w') := by
  refine CI.of (own := RX9) (nm := "rest") (lv := [some (.ref (gb g + 78)), some (.int k), some (.int n)]) (by decide) rfl rfl (Nat.le_of_ble_eq_true rfl) rfl (fun Q hQ => ?_)
  by_cases hc : 0 ≤ k.toInt ∧ k.toInt < 5
  · obtain ⟨q, hq, ek⟩ := i_of (n := 5) hc.1 hc.2
    subst ek
    refine jr_iload_n dX9_rest_0 rfl ?_
    refine jc_Si (c_isSlot g _ _) lkX9_309 rfl rfl (Nat.le_of_ble_eq_true rfl) (Nat.le_of_ble_eq_true rfl) dX9_rest_1 (fun r_1 w_1 h_1 => ?_)
    obtain ⟨rfl, rfl⟩ := h_1
    refine jr_if_ne 10 dX9_rest_4 (by decide) (fun c_4 => ?_) (fun c_4 => absurd c_4 (jb_1.mpr hc))
    refine jr_aload_n dX9_rest_10 rfl ?_
    refine gfX9_28 85 dX9_rest_11 (hw.k rfl) (hw.f rfl) ?_
    refine jr_iload_n dX9_rest_14 rfl ?_
    refine jr_iald q (hw.k rfl) rfl ⟨hq, by decide⟩ dX9_rest_15 ?_
    refine jr_iconst (3) dX9_rest_16 (by decide) ?_
    refine jr_icmp_eq 37 dX9_rest_17 (by decide) (fun c_17 => ?_) (fun c_17 => ?_)
    · simp only [lt_i, le_i, eq_i, Int32.reduceToInt] at c_17
      refine jr_iload_n dX9_rest_37 rfl ?_
      refine jr_if_ne 47 dX9_rest_38 (by decide) (fun c_38 => ?_) (fun c_38 => ?_)
      · refine jr_aload_n dX9_rest_47 rfl ?_
        refine gfX9_31 86 dX9_rest_48 (hw.k rfl) (hw.f rfl) ?_
        refine jr_iload_n dX9_rest_51 rfl ?_
        refine jr_iald q (hw.k rfl) rfl ⟨hq, by decide⟩ dX9_rest_52 ?_
        refine jr_iload_n dX9_rest_53 rfl ?_
        refine jr_irem dX9_rest_54 c_38 ?_
        refine jr_iret rfl dX9_rest_55 ?_
        refine hQ _ _ ⟨?_, rfl⟩
        rw [F_rest, if_pos hc, nI_clamp (by omega)]
        first | (rw [if_pos c_17, if_pos c_38]; done) | (rw [if_pos c_17, if_neg c_38]; rfl) | (rw [if_neg c_17, if_pos c_26]; done) | (rw [if_neg c_17, if_neg c_26]; done)
      · refine jr_ldcw (-1000000002) ckX9_312 dX9_rest_41 ?_
        refine jr_goto 55 dX9_rest_44 (by decide) ?_
        refine jr_iret rfl dX9_rest_55 ?_
        refine hQ _ _ ⟨?_, rfl⟩
        rw [F_rest, if_pos hc, nI_clamp (by omega)]
        first | (rw [if_pos c_17, if_pos c_38]; done) | (rw [if_pos c_17, if_neg c_38]; rfl) | (rw [if_neg c_17, if_pos c_26]; done) | (rw [if_neg c_17, if_neg c_26]; done)
    · simp only [lt_i, le_i, eq_i, Int32.reduceToInt] at c_17
      refine jr_aload_n dX9_rest_20 rfl ?_
      refine gfX9_28 85 dX9_rest_21 (hw.k rfl) (hw.f rfl) ?_
      refine jr_iload_n dX9_rest_24 rfl ?_
      refine jr_iald q (hw.k rfl) rfl ⟨hq, by decide⟩ dX9_rest_25 ?_
      refine jr_if_ne 34 dX9_rest_26 (by decide) (fun c_26 => ?_) (fun c_26 => ?_)
      · simp only [lt_i, le_i, eq_i, Int32.reduceToInt] at c_26
        refine jr_ldc (-1000000012) ckX9_125 dX9_rest_34 ?_
        refine jr_iret rfl dX9_rest_36 ?_
        refine hQ _ _ ⟨?_, rfl⟩
        rw [F_rest, if_pos hc, nI_clamp (by omega)]
        first | (rw [if_pos c_17, if_pos c_38]; done) | (rw [if_pos c_17, if_neg c_38]; rfl) | (rw [if_neg c_17, if_pos c_26]; done) | (rw [if_neg c_17, if_neg c_26]; done)
      · simp only [lt_i, le_i, eq_i, Int32.reduceToInt] at c_26
        refine jr_ldc (-1000000011) ckX9_181 dX9_rest_29 ?_
        refine jr_goto 36 dX9_rest_31 (by decide) ?_
        refine jr_iret rfl dX9_rest_36 ?_
        refine hQ _ _ ⟨?_, rfl⟩
        rw [F_rest, if_pos hc, nI_clamp (by omega)]
        first | (rw [if_pos c_17, if_pos c_38]; done) | (rw [if_pos c_17, if_neg c_38]; rfl) | (rw [if_neg c_17, if_pos c_26]; done) | (rw [if_neg c_17, if_neg c_26]; done)
  · refine jr_iload_n dX9_rest_0 rfl ?_
    refine jc_Si (c_isSlot g _ _) lkX9_309 rfl rfl (Nat.le_of_ble_eq_true rfl) (Nat.le_of_ble_eq_true rfl) dX9_rest_1 (fun r_1 w_1 h_1 => ?_)
    obtain ⟨rfl, rfl⟩ := h_1
    refine jr_if_ne 10 dX9_rest_4 (by decide) (fun c_4 => absurd (jb_f hc) c_4) (fun c_4 => ?_)
    refine jr_ldc (-1000000001) ckX9_83 dX9_rest_7 ?_
    refine jr_iret rfl dX9_rest_9 ?_
    exact hQ _ _ ⟨by rw [F_rest, if_neg hc], rfl⟩
def F_ask (hd hn hw2 : Nat → Int32) (k x : Int32) : Int32 := if (0 ≤ k.toInt ∧ k.toInt < 5) ∧ inR x 0 5 then (if (hd k.toNatClampNeg).toInt = 0 then -1000000011 else if (hd k.toNatClampNeg).toInt = 1 ∧ ((hn k.toNatClampNeg).toInt = x.toInt ∨ x.toInt = 0 ∨ (x.toInt = 1 ∧ (hn k.toNatClampNeg).toInt = 3) ∨ (x.toInt = 2 ∧ (hn k.toNatClampNeg).toInt = 4)) then hw2 k.toNatClampNeg else -1000000012) else -1000000001
theorem m_ask (g : Cx) (w : Wd) (hw : Wf w) (k x : Int32) : CI g yX9_ask cX9_ask 3 (some .int) 3 0 0 [.ref (gb g + 78), .int k, .int x] w (fun r w' => r = F_ask (wI w 85) (wI w 86) (wI w 87) k x ∧ w = w') := by
  refine CI.of (own := RX9) (nm := "ask") (lv := [some (.ref (gb g + 78)), some (.int k), some (.int x)]) (by decide) rfl rfl (Nat.le_of_ble_eq_true rfl) rfl (fun Q hQ => ?_)
  by_cases hc : 0 ≤ k.toInt ∧ k.toInt < 5
  · obtain ⟨q, hq, ek⟩ := i_of (n := 5) hc.1 hc.2
    subst ek
    refine jr_iload_n dX9_ask_0 rfl ?_
    refine jc_Si (c_isSlot g _ _) lkX9_309 rfl rfl (Nat.le_of_ble_eq_true rfl) (Nat.le_of_ble_eq_true rfl) dX9_ask_1 (fun r_1 w_1 h_1 => ?_)
    obtain ⟨rfl, rfl⟩ := h_1
    refine jr_if_eq 19 dX9_ask_4 (by decide) (fun c_4 => absurd c_4 (jb_1.mpr hc)) (fun c_4 => ?_)
    refine jr_iload_n dX9_ask_7 rfl ?_
    refine jr_i2l dX9_ask_8 ?_
    refine jr_lconst 0 dX9_ask_9 (by decide) ?_
    refine jr_ldc2 (5) ckX9_77 dX9_ask_10 ?_
    refine jc_Si (c_isInI g _ _ _ _) lkX9_68 rfl rfl (Nat.le_of_ble_eq_true rfl) (Nat.le_of_ble_eq_true rfl) dX9_ask_13 (fun r_13 w_13 h_13 => ?_)
    obtain ⟨rfl, rfl⟩ := h_13
    refine jr_if_ne 22 dX9_ask_16 (by decide) (fun c_16 => ?_) (fun c_16 => ?_)
    · rw [jb_1] at c_16
      simp only [Int64.reduceToInt] at c_16
      refine jr_aload_n dX9_ask_22 rfl ?_
      refine gfX9_28 85 dX9_ask_23 (hw.k rfl) (hw.f rfl) ?_
      refine jr_iload_n dX9_ask_26 rfl ?_
      refine jr_iald q (hw.k rfl) rfl ⟨hq, by decide⟩ dX9_ask_27 ?_
      refine jr_if_ne 34 dX9_ask_28 (by decide) (fun c_28 => ?_) (fun c_28 => ?_)
      · simp only [lt_i, le_i, eq_i, Int32.reduceToInt] at c_28
        refine jr_aload_n dX9_ask_34 rfl ?_
        refine gfX9_28 85 dX9_ask_35 (hw.k rfl) (hw.f rfl) ?_
        refine jr_iload_n dX9_ask_38 rfl ?_
        refine jr_iald q (hw.k rfl) rfl ⟨hq, by decide⟩ dX9_ask_39 ?_
        refine jr_iconst (1) dX9_ask_40 (by decide) ?_
        refine jr_icmp_ne 66 dX9_ask_41 (by decide) (fun c_41 => ?_) (fun c_41 => ?_)
        · simp only [lt_i, le_i, eq_i, Int32.reduceToInt] at c_41
          refine jr_ldc (-1000000012) ckX9_125 dX9_ask_66 ?_
          refine jr_iret rfl dX9_ask_68 ?_
          refine hQ _ _ ⟨?_, rfl⟩
          rw [F_ask, if_pos ⟨hc, c_16⟩, nI_clamp (by omega), if_neg c_28]
          first | (rw [if_pos ⟨c_41, c_54⟩]; done) | (rw [if_neg (fun h => c_41 h.1)]; done) | (rw [if_neg (fun h => c_54 h.2)]; done)
        · simp only [lt_i, le_i, eq_i, Int32.reduceToInt] at c_41
          refine jr_aload_n dX9_ask_44 rfl ?_
          refine gfX9_31 86 dX9_ask_45 (hw.k rfl) (hw.f rfl) ?_
          refine jr_iload_n dX9_ask_48 rfl ?_
          refine jr_iald q (hw.k rfl) rfl ⟨hq, by decide⟩ dX9_ask_49 ?_
          refine jr_iload_n dX9_ask_50 rfl ?_
          refine jc_Si (c_isOf g _ _ _) lkX9_121 rfl rfl (Nat.le_of_ble_eq_true rfl) (Nat.le_of_ble_eq_true rfl) dX9_ask_51 (fun r_51 w_51 h_51 => ?_)
          obtain ⟨rfl, rfl⟩ := h_51
          refine jr_if_eq 66 dX9_ask_54 (by decide) (fun c_54 => ?_) (fun c_54 => ?_)
          · rw [jb_0] at c_54
            refine jr_ldc (-1000000012) ckX9_125 dX9_ask_66 ?_
            refine jr_iret rfl dX9_ask_68 ?_
            refine hQ _ _ ⟨?_, rfl⟩
            rw [F_ask, if_pos ⟨hc, c_16⟩, nI_clamp (by omega), if_neg c_28]
            first | (rw [if_pos ⟨c_41, c_54⟩]; done) | (rw [if_neg (fun h => c_41 h.1)]; done) | (rw [if_neg (fun h => c_54 h.2)]; done)
          · rw [jb_1] at c_54
            refine jr_aload_n dX9_ask_57 rfl ?_
            refine gfX9_34 87 dX9_ask_58 (hw.k rfl) (hw.f rfl) ?_
            refine jr_iload_n dX9_ask_61 rfl ?_
            refine jr_iald q (hw.k rfl) rfl ⟨hq, by decide⟩ dX9_ask_62 ?_
            refine jr_goto 68 dX9_ask_63 (by decide) ?_
            refine jr_iret rfl dX9_ask_68 ?_
            refine hQ _ _ ⟨?_, rfl⟩
            rw [F_ask, if_pos ⟨hc, c_16⟩, nI_clamp (by omega), if_neg c_28]
            first | (rw [if_pos ⟨c_41, c_54⟩]; done) | (rw [if_neg (fun h => c_41 h.1)]; done) | (rw [if_neg (fun h => c_54 h.2)]; done)
      · simp only [lt_i, le_i, eq_i, Int32.reduceToInt] at c_28
        refine jr_ldc (-1000000011) ckX9_181 dX9_ask_31 ?_
        refine jr_iret rfl dX9_ask_33 ?_
        exact hQ _ _ ⟨by rw [F_ask, if_pos ⟨hc, c_16⟩, nI_clamp (by omega), if_pos c_28], rfl⟩
    · rw [jb_0] at c_16
      simp only [Int64.reduceToInt] at c_16
      refine jr_ldc (-1000000001) ckX9_83 dX9_ask_19 ?_
      refine jr_iret rfl dX9_ask_21 ?_
      exact hQ _ _ ⟨by rw [F_ask, if_neg (fun h => c_16 h.2)], rfl⟩
  · refine jr_iload_n dX9_ask_0 rfl ?_
    refine jc_Si (c_isSlot g _ _) lkX9_309 rfl rfl (Nat.le_of_ble_eq_true rfl) (Nat.le_of_ble_eq_true rfl) dX9_ask_1 (fun r_1 w_1 h_1 => ?_)
    obtain ⟨rfl, rfl⟩ := h_1
    refine jr_if_eq 19 dX9_ask_4 (by decide) (fun c_4 => ?_) (fun c_4 => absurd (jb_f hc) c_4)
    refine jr_ldc (-1000000001) ckX9_83 dX9_ask_19 ?_
    refine jr_iret rfl dX9_ask_21 ?_
    exact hQ _ _ ⟨by rw [F_ask, if_neg (fun h => hc h.1)], rfl⟩
def F_item (hd hz hr : Nat → Int32) (k p : Int32) : Int32 := if 0 ≤ k.toInt ∧ k.toInt < 5 then (if (hd k.toNatClampNeg).toInt = 2 then (if 0 ≤ p.toInt ∧ p.toInt < (hz k.toNatClampNeg).toInt then (if hr (24 * k.toNatClampNeg + p.toNatClampNeg) = -1000000005 then -1000000012 else hr (24 * k.toNatClampNeg + p.toNatClampNeg)) else -1000000013) else if (hd k.toNatClampNeg).toInt = 0 then -1000000011 else -1000000012) else -1000000001
theorem m_item (g : Cx) (w : Wd) (hw : Wf w) (k p : Int32) (hz : ∀ q, q < 5 → ∃ n, n ≤ 24 ∧ wI w 88 q = nI n) : CI g yX9_item cX9_item 4 (some .int) 3 0 0 [.ref (gb g + 78), .int k, .int p] w (fun r w' => r = F_item (wI w 85) (wI w 88) (wI w 89) k p ∧ w = w') := by
  refine CI.of (own := RX9) (nm := "item") (lv := [some (.ref (gb g + 78)), some (.int k), some (.int p), none]) (by decide) rfl rfl (Nat.le_of_ble_eq_true rfl) rfl (fun Q hQ => ?_)
  by_cases hc : 0 ≤ k.toInt ∧ k.toInt < 5
  · obtain ⟨q, hq, ek⟩ := i_of (n := 5) hc.1 hc.2
    subst ek
    obtain ⟨n, hn, en⟩ := hz q hq
    have en2 := i_nI (n := n) (by omega)
    have esub : (nI n - 1).toInt = (n : Int) - 1 := sub1_i (by omega)
    refine jr_iload_n dX9_item_0 rfl ?_
    refine jc_Si (c_isSlot g _ _) lkX9_309 rfl rfl (Nat.le_of_ble_eq_true rfl) (Nat.le_of_ble_eq_true rfl) dX9_item_1 (fun r_1 w_1 h_1 => ?_)
    obtain ⟨rfl, rfl⟩ := h_1
    refine jr_if_ne 10 dX9_item_4 (by decide) (fun c_4 => ?_) (fun c_4 => absurd c_4 (jb_1.mpr hc))
    refine jr_aload_n dX9_item_10 rfl ?_
    refine gfX9_28 85 dX9_item_11 (hw.k rfl) (hw.f rfl) ?_
    refine jr_iload_n dX9_item_14 rfl ?_
    refine jr_iald q (hw.k rfl) rfl ⟨hq, by decide⟩ dX9_item_15 ?_
    refine jr_iconst (2) dX9_item_16 (by decide) ?_
    refine jr_icmp_eq 37 dX9_item_17 (by decide) (fun c_17 => ?_) (fun c_17 => ?_)
    · simp only [lt_i, le_i, eq_i, Int32.reduceToInt] at c_17
      refine jr_iload_n dX9_item_37 rfl ?_
      refine jr_i2l dX9_item_38 ?_
      refine jr_lconst 0 dX9_item_39 (by decide) ?_
      refine jr_aload_n dX9_item_40 rfl ?_
      refine gfX9_37 88 dX9_item_41 (hw.k rfl) (hw.f rfl) ?_
      refine jr_iload_n dX9_item_44 rfl ?_
      refine jr_iald q (hw.k rfl) rfl ⟨hq, by decide⟩ dX9_item_45 ?_
      rw [en]
      refine jr_iconst (1) dX9_item_46 (by decide) ?_
      refine jr_isub dX9_item_47 ?_
      refine jr_i2l dX9_item_48 ?_
      refine jc_Si (c_isInI g _ _ _ _) lkX9_68 rfl rfl (Nat.le_of_ble_eq_true rfl) (Nat.le_of_ble_eq_true rfl) dX9_item_49 (fun r_49 w_49 h_49 => ?_)
      obtain ⟨rfl, rfl⟩ := h_49
      refine jr_if_ne 59 dX9_item_52 (by decide) (fun c_52 => ?_) (fun c_52 => ?_)
      · rw [jb_1] at c_52
        simp only [Int64.reduceToInt] at c_52
        rw [l_of_i, esub] at c_52
        obtain ⟨y, hy, ey⟩ := i_of (n := 24) (x := p) c_52.1 (by omega)
        subst ey
        have ey := i_nI (n := y) (by omega)
        refine jr_aload_n dX9_item_59 rfl ?_
        refine gfX9_40 89 dX9_item_60 (hw.k rfl) (hw.f rfl) ?_
        refine jr_bipush (24) dX9_item_63 (by decide) ?_
        refine jr_iload_n dX9_item_65 rfl ?_
        refine jr_imul dX9_item_66 ?_
        refine jr_iload_n dX9_item_67 rfl ?_
        refine jr_iadd dX9_item_68 ?_
        refine jr_iald (24 * q + y) (hw.k rfl) (by rw [jlit 24, pk_mul, nI_add]) ⟨by omega, by decide⟩ dX9_item_69 ?_
        refine jr_istore_3 dX9_item_70 (by decide) rfl ?_
        refine jr_iload_n dX9_item_71 rfl ?_
        refine jr_ldc (-1000000005) ckX9_67 dX9_item_72 ?_
        refine jr_icmp_ne 82 dX9_item_74 (by decide) (fun c_74 => ?_) (fun c_74 => ?_)
        · refine jr_iload_n dX9_item_82 rfl ?_
          refine jr_iret rfl dX9_item_83 ?_
          refine hQ _ _ ⟨?_, rfl⟩
          rw [F_item, if_pos hc, nI_clamp (by omega), if_pos c_17, en, if_pos (by omega), nI_clamp (by omega)]
          first | (rw [if_pos c_74]; done) | (rw [if_neg c_74]; done)
        · refine jr_ldc (-1000000012) ckX9_125 dX9_item_77 ?_
          refine jr_goto 83 dX9_item_79 (by decide) ?_
          refine jr_iret rfl dX9_item_83 ?_
          refine hQ _ _ ⟨?_, rfl⟩
          rw [F_item, if_pos hc, nI_clamp (by omega), if_pos c_17, en, if_pos (by omega), nI_clamp (by omega)]
          first | (rw [if_pos c_74]; done) | (rw [if_neg c_74]; done)
      · rw [jb_0] at c_52
        simp only [Int64.reduceToInt] at c_52
        rw [l_of_i, esub] at c_52
        refine jr_ldcw (-1000000013) ckX9_299 dX9_item_55 ?_
        refine jr_iret rfl dX9_item_58 ?_
        exact hQ _ _ ⟨by rw [F_item, if_pos hc, nI_clamp (by omega), if_pos c_17, en, if_neg (by omega)], rfl⟩
    · simp only [lt_i, le_i, eq_i, Int32.reduceToInt] at c_17
      refine jr_aload_n dX9_item_20 rfl ?_
      refine gfX9_28 85 dX9_item_21 (hw.k rfl) (hw.f rfl) ?_
      refine jr_iload_n dX9_item_24 rfl ?_
      refine jr_iald q (hw.k rfl) rfl ⟨hq, by decide⟩ dX9_item_25 ?_
      refine jr_if_ne 34 dX9_item_26 (by decide) (fun c_26 => ?_) (fun c_26 => ?_)
      · simp only [lt_i, le_i, eq_i, Int32.reduceToInt] at c_26
        refine jr_ldc (-1000000012) ckX9_125 dX9_item_34 ?_
        refine jr_iret rfl dX9_item_36 ?_
        refine hQ _ _ ⟨?_, rfl⟩
        rw [F_item, if_pos hc, nI_clamp (by omega), if_neg c_17]
        first | (rw [if_pos c_26]; done) | (rw [if_neg c_26]; done)
      · simp only [lt_i, le_i, eq_i, Int32.reduceToInt] at c_26
        refine jr_ldc (-1000000011) ckX9_181 dX9_item_29 ?_
        refine jr_goto 36 dX9_item_31 (by decide) ?_
        refine jr_iret rfl dX9_item_36 ?_
        refine hQ _ _ ⟨?_, rfl⟩
        rw [F_item, if_pos hc, nI_clamp (by omega), if_neg c_17]
        first | (rw [if_pos c_26]; done) | (rw [if_neg c_26]; done)
  · refine jr_iload_n dX9_item_0 rfl ?_
    refine jc_Si (c_isSlot g _ _) lkX9_309 rfl rfl (Nat.le_of_ble_eq_true rfl) (Nat.le_of_ble_eq_true rfl) dX9_item_1 (fun r_1 w_1 h_1 => ?_)
    obtain ⟨rfl, rfl⟩ := h_1
    refine jr_if_ne 10 dX9_item_4 (by decide) (fun c_4 => absurd (jb_f hc) c_4) (fun c_4 => ?_)
    refine jr_ldc (-1000000001) ckX9_83 dX9_item_7 ?_
    refine jr_iret rfl dX9_item_9 ?_
    exact hQ _ _ ⟨by rw [F_item, if_neg hc], rfl⟩
