-- the reference: the reader of texts, its letters
/-- a letter or a digit of the tape at a place -/
abbrev tpL (T : Nat → Int32) (n i : Nat) : Prop := i < n ∧ 97 ≤ (T i).toInt ∧ (T i).toInt ≤ 122
abbrev tpD (T : Nat → Int32) (n i : Nat) : Prop := i < n ∧ 48 ≤ (T i).toInt ∧ (T i).toInt ≤ 57
theorem c_isLetter (g : Cx) (w : Wd) (hw : Wf w) (T : Nat → Int32) (hT : wI w 92 = T) (n : Nat) (hn : n ≤ 96) (h15 : wI w 78 15 = nI n) (i : Nat) (hi : i ≤ 96) : CI g yX9_isLetter cX9_isLetter 2 (some .boolean) 2 0 0 [.ref (gb g + 78), .int (nI i)] w (fun r w' => r = jb (tpL T n i) ∧ w = w') := by
  have en : (nI n).toInt = (n : Int) := i_nI (by omega)
  have ei : (nI i).toInt = (i : Int) := i_nI (by omega)
  refine CI.of (own := RX9) (nm := "isLetter") (lv := [some (.ref (gb g + 78)), some (.int (nI i))]) (by decide) rfl rfl (Nat.le_of_ble_eq_true rfl) rfl (fun Q hQ => ?_)
  refine jr_iload_n dX9_isLetter_0 rfl ?_
  refine jr_aload_n dX9_isLetter_1 rfl ?_
  refine gfX9_191 dX9_isLetter_2 (hw.k rfl) ?_
  rw [h15]
  refine jr_icmp_ge 31 dX9_isLetter_5 (by decide) (fun c_5 => ?_) (fun c_5 => ?_)
  · simp only [lt_i, le_i, eq_i, Int32.reduceToInt] at c_5
    refine jr_iconst (0) dX9_isLetter_31 (by decide) ?_
    refine jr_zret rfl (by decide) dX9_isLetter_32 ?_
    refine hQ _ _ ⟨?_, rfl⟩
    first | exact (jb_t (show tpL T n i by unfold tpL; omega)).symm | exact (jb_f (show ¬ tpL T n i by unfold tpL; omega)).symm
  · simp only [lt_i, le_i, eq_i, Int32.reduceToInt] at c_5
    refine jr_aload_n dX9_isLetter_8 rfl ?_
    refine gfX9_49 92 dX9_isLetter_9 (hw.k rfl) (hw.f rfl) ?_
    refine jr_iload_n dX9_isLetter_12 rfl ?_
    refine jr_iald i (hw.k rfl) rfl ⟨by omega, by decide⟩ dX9_isLetter_13 ?_
    rw [hT]
    refine jr_i2l dX9_isLetter_14 ?_
    refine jr_ldc2 (97) ckX9_195 dX9_isLetter_15 ?_
    refine jr_ldc2 (122) ckX9_197 dX9_isLetter_18 ?_
    refine jc_Si (c_isInI g _ _ _ _) lkX9_68 rfl rfl (Nat.le_of_ble_eq_true rfl) (Nat.le_of_ble_eq_true rfl) dX9_isLetter_21 (fun r_21 w_21 h_21 => ?_)
    obtain ⟨rfl, rfl⟩ := h_21
    refine jr_if_eq 31 dX9_isLetter_24 (by decide) (fun c_24 => ?_) (fun c_24 => ?_)
    · rw [jb_0] at c_24
      simp only [Int64.reduceToInt] at c_24
      refine jr_iconst (0) dX9_isLetter_31 (by decide) ?_
      refine jr_zret rfl (by decide) dX9_isLetter_32 ?_
      refine hQ _ _ ⟨?_, rfl⟩
      first | exact (jb_t (show tpL T n i by unfold tpL; omega)).symm | exact (jb_f (show ¬ tpL T n i by unfold tpL; omega)).symm
    · rw [jb_1] at c_24
      simp only [Int64.reduceToInt] at c_24
      refine jr_iconst (1) dX9_isLetter_27 (by decide) ?_
      refine jr_goto 32 dX9_isLetter_28 (by decide) ?_
      refine jr_zret rfl (by decide) dX9_isLetter_32 ?_
      refine hQ _ _ ⟨?_, rfl⟩
      first | exact (jb_t (show tpL T n i by unfold tpL; omega)).symm | exact (jb_f (show ¬ tpL T n i by unfold tpL; omega)).symm
theorem c_isDigit (g : Cx) (w : Wd) (hw : Wf w) (T : Nat → Int32) (hT : wI w 92 = T) (n : Nat) (hn : n ≤ 96) (h15 : wI w 78 15 = nI n) (i : Nat) (hi : i ≤ 96) : CI g yX9_isDigit cX9_isDigit 2 (some .boolean) 2 0 0 [.ref (gb g + 78), .int (nI i)] w (fun r w' => r = jb (tpD T n i) ∧ w = w') := by
  have en : (nI n).toInt = (n : Int) := i_nI (by omega)
  have ei : (nI i).toInt = (i : Int) := i_nI (by omega)
  refine CI.of (own := RX9) (nm := "isDigit") (lv := [some (.ref (gb g + 78)), some (.int (nI i))]) (by decide) rfl rfl (Nat.le_of_ble_eq_true rfl) rfl (fun Q hQ => ?_)
  refine jr_iload_n dX9_isDigit_0 rfl ?_
  refine jr_aload_n dX9_isDigit_1 rfl ?_
  refine gfX9_191 dX9_isDigit_2 (hw.k rfl) ?_
  rw [h15]
  refine jr_icmp_ge 31 dX9_isDigit_5 (by decide) (fun c_5 => ?_) (fun c_5 => ?_)
  · simp only [lt_i, le_i, eq_i, Int32.reduceToInt] at c_5
    refine jr_iconst (0) dX9_isDigit_31 (by decide) ?_
    refine jr_zret rfl (by decide) dX9_isDigit_32 ?_
    refine hQ _ _ ⟨?_, rfl⟩
    first | exact (jb_t (show tpD T n i by unfold tpD; omega)).symm | exact (jb_f (show ¬ tpD T n i by unfold tpD; omega)).symm
  · simp only [lt_i, le_i, eq_i, Int32.reduceToInt] at c_5
    refine jr_aload_n dX9_isDigit_8 rfl ?_
    refine gfX9_49 92 dX9_isDigit_9 (hw.k rfl) (hw.f rfl) ?_
    refine jr_iload_n dX9_isDigit_12 rfl ?_
    refine jr_iald i (hw.k rfl) rfl ⟨by omega, by decide⟩ dX9_isDigit_13 ?_
    rw [hT]
    refine jr_i2l dX9_isDigit_14 ?_
    refine jr_ldc2 (48) ckX9_199 dX9_isDigit_15 ?_
    refine jr_ldc2 (57) ckX9_201 dX9_isDigit_18 ?_
    refine jc_Si (c_isInI g _ _ _ _) lkX9_68 rfl rfl (Nat.le_of_ble_eq_true rfl) (Nat.le_of_ble_eq_true rfl) dX9_isDigit_21 (fun r_21 w_21 h_21 => ?_)
    obtain ⟨rfl, rfl⟩ := h_21
    refine jr_if_eq 31 dX9_isDigit_24 (by decide) (fun c_24 => ?_) (fun c_24 => ?_)
    · rw [jb_0] at c_24
      simp only [Int64.reduceToInt] at c_24
      refine jr_iconst (0) dX9_isDigit_31 (by decide) ?_
      refine jr_zret rfl (by decide) dX9_isDigit_32 ?_
      refine hQ _ _ ⟨?_, rfl⟩
      first | exact (jb_t (show tpD T n i by unfold tpD; omega)).symm | exact (jb_f (show ¬ tpD T n i by unfold tpD; omega)).symm
    · rw [jb_1] at c_24
      simp only [Int64.reduceToInt] at c_24
      refine jr_iconst (1) dX9_isDigit_27 (by decide) ?_
      refine jr_goto 32 dX9_isDigit_28 (by decide) ?_
      refine jr_zret rfl (by decide) dX9_isDigit_32 ?_
      refine hQ _ _ ⟨?_, rfl⟩
      first | exact (jb_t (show tpD T n i by unfold tpD; omega)).symm | exact (jb_f (show ¬ tpD T n i by unfold tpD; omega)).symm
theorem c_isSign (g : Cx) (w : Wd) (hw : Wf w) (x : Int32) : CI g yX9_isSign cX9_isSign 2 (some .boolean) 1 0 0 [.ref (gb g + 78), .int x] w (fun r w' => r = jb (wI w 78 18 = 3 ∧ wI w 78 20 = x) ∧ w = w') := by
  refine CI.of (own := RX9) (nm := "isSign") (lv := [some (.ref (gb g + 78)), some (.int x)]) (by decide) rfl rfl (Nat.le_of_ble_eq_true rfl) rfl (fun Q hQ => ?_)
  refine jr_aload_n dX9_isSign_0 rfl ?_
  refine gfX9_206 dX9_isSign_1 (hw.k rfl) ?_
  refine jr_iconst (3) dX9_isSign_4 (by decide) ?_
  refine jr_icmp_ne 20 dX9_isSign_5 (by decide) (fun c_5 => ?_) (fun c_5 => ?_)
  · refine jr_iconst (0) dX9_isSign_20 (by decide) ?_
    refine jr_zret rfl (by decide) dX9_isSign_21 ?_
    refine hQ _ _ ⟨?_, rfl⟩
    first | exact (jb_t ⟨c_5, c_13⟩).symm | exact (jb_f (fun hh => c_5 hh.1)).symm | exact (jb_f (fun hh => c_13 hh.2)).symm
  · refine jr_aload_n dX9_isSign_8 rfl ?_
    refine gfX9_215 dX9_isSign_9 (hw.k rfl) ?_
    refine jr_iload_n dX9_isSign_12 rfl ?_
    refine jr_icmp_ne 20 dX9_isSign_13 (by decide) (fun c_13 => ?_) (fun c_13 => ?_)
    · refine jr_iconst (0) dX9_isSign_20 (by decide) ?_
      refine jr_zret rfl (by decide) dX9_isSign_21 ?_
      refine hQ _ _ ⟨?_, rfl⟩
      first | exact (jb_t ⟨c_5, c_13⟩).symm | exact (jb_f (fun hh => c_5 hh.1)).symm | exact (jb_f (fun hh => c_13 hh.2)).symm
    · refine jr_iconst (1) dX9_isSign_16 (by decide) ?_
      refine jr_goto 21 dX9_isSign_17 (by decide) ?_
      refine jr_zret rfl (by decide) dX9_isSign_21 ?_
      refine hQ _ _ ⟨?_, rfl⟩
      first | exact (jb_t ⟨c_5, c_13⟩).symm | exact (jb_f (fun hh => c_5 hh.1)).symm | exact (jb_f (fun hh => c_13 hh.2)).symm
theorem c_step (g : Cx) (w : Wd) (hw : Wf w) (at0 k : Nat) (h24 : wI w 78 24 = nI at0) (h23 : wI w 78 23 = nI k) (hb : at0 + 2 * k + 1 < 3040) (a b : Int32) : CV g yX9_step cX9_step 3 1 0 0 [.ref (gb g + 78), .int a, .int b] w (fun w' => w' = sR (sR w 79 (upd (upd (wI w 79) (at0 + 2 * k) a) (at0 + 2 * k + 1) b)) 78 (upd (wI w 78) 23 (nI (k + 1)))) := by
  refine CV.of (own := RX9) (nm := "step") (lv := [some (.ref (gb g + 78)), some (.int a), some (.int b)]) (by decide) rfl rfl (Nat.le_of_ble_eq_true rfl) rfl (fun Q hQ => ?_)
  refine jr_aload_n dX9_step_0 rfl ?_
  refine gfX9_7 79 dX9_step_1 (hw.k rfl) (hw.f rfl) ?_
  refine jr_aload_n dX9_step_4 rfl ?_
  refine gfX9_232 dX9_step_5 (hw.k rfl) ?_
  rw [h24]
  refine jr_iconst (2) dX9_step_8 (by decide) ?_
  refine jr_aload_n dX9_step_9 rfl ?_
  refine gfX9_235 dX9_step_10 (hw.k rfl) ?_
  rw [h23]
  refine jr_imul dX9_step_13 ?_
  refine jr_iadd dX9_step_14 ?_
  refine jr_iload_n dX9_step_15 rfl ?_
  refine jr_iast (at0 + 2 * k) (hw.k rfl) (by rw [jlit 2, pk_mul, nI_add]) ⟨by omega, by decide⟩ dX9_step_16 ?_
  refine jr_aload_n dX9_step_17 rfl ?_
  refine gfX9_7 79 dX9_step_18 (hw.k rfl) (hw.f rfl) ?_
  refine jr_aload_n dX9_step_21 rfl ?_
  refine gfX9_232 dX9_step_22 (hw.k rfl) ?_
  rw [wI_sR_n _ (by decide), h24]
  refine jr_iconst (2) dX9_step_25 (by decide) ?_
  refine jr_aload_n dX9_step_26 rfl ?_
  refine gfX9_235 dX9_step_27 (hw.k rfl) ?_
  rw [wI_sR_n _ (by decide), h23]
  refine jr_imul dX9_step_30 ?_
  refine jr_iadd dX9_step_31 ?_
  refine jr_iconst (1) dX9_step_32 (by decide) ?_
  refine jr_iadd dX9_step_33 ?_
  refine jr_iload_n dX9_step_34 rfl ?_
  refine jr_iast (at0 + 2 * k + 1) (hw.k rfl) (by rw [jlit 2, pk_mul, nI_add, jlit 1, nI_add]) ⟨by omega, by decide⟩ dX9_step_35 ?_
  refine jr_aload_n dX9_step_36 rfl ?_
  refine jr_dup dX9_step_37 rfl ?_
  refine gfX9_235 dX9_step_38 (hw.k rfl) ?_
  rw [sR_sR, wI_sR_s, wI_sR_n _ (by decide), h23]
  refine jr_iconst (1) dX9_step_41 (by decide) ?_
  refine jr_iadd dX9_step_42 ?_
  refine pfX9_235 dX9_step_43 (hw.k rfl) ?_
  refine jr_vret rfl dX9_step_46 ?_
  refine hQ _ ?_
  rw [wI_sR_n _ (by decide), jlit 1, nI_add]
