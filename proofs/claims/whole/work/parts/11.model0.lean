-- small methods of the reference
theorem c_isIn (g : Cx) (w : Wd) (a b c : Int64) : CI g yX9_isIn cX9_isIn 6 (some .boolean) 1 0 0 [.long a, .long b, .long c] w (fun r w' => r = jb (b.toInt ≤ a.toInt ∧ a.toInt ≤ c.toInt) ∧ w = w') := by
  refine CI.of (own := RX9) (nm := "isIn") (lv := [some (.long a), none, some (.long b), none, some (.long c), none]) (by decide) rfl rfl (Nat.le_of_ble_eq_true rfl) rfl (fun Q hQ => ?_)
  refine jr_lload_n dX9_isIn_0 rfl ?_
  refine jr_lload_n dX9_isIn_1 rfl ?_
  refine jr_lcmp dX9_isIn_2 ?_
  refine jr_if_lt 17 dX9_isIn_3 (by decide) (fun c_3 => ?_) (fun c_3 => ?_)
  · rw [lg_cmp_lt, lt_l] at c_3
    refine jr_iconst (0) dX9_isIn_17 (by decide) ?_
    refine jr_zret rfl (by decide) dX9_isIn_18 ?_
    first | exact hQ _ _ ⟨(jb_f (by omega)).symm, rfl⟩ | exact hQ _ _ ⟨(jb_t (by omega)).symm, rfl⟩
  · rw [lg_cmp_lt, lt_l] at c_3
    refine jr_lload_n dX9_isIn_6 rfl ?_
    refine jr_lload dX9_isIn_7 rfl ?_
    refine jr_lcmp dX9_isIn_9 ?_
    refine jr_if_gt 17 dX9_isIn_10 (by decide) (fun c_10 => ?_) (fun c_10 => ?_)
    · rw [lg_cmp_gt, lt_l] at c_10
      refine jr_iconst (0) dX9_isIn_17 (by decide) ?_
      refine jr_zret rfl (by decide) dX9_isIn_18 ?_
      first | exact hQ _ _ ⟨(jb_f (by omega)).symm, rfl⟩ | exact hQ _ _ ⟨(jb_t (by omega)).symm, rfl⟩
    · rw [lg_cmp_gt, lt_l] at c_10
      refine jr_iconst (1) dX9_isIn_13 (by decide) ?_
      refine jr_goto 18 dX9_isIn_14 (by decide) ?_
      refine jr_zret rfl (by decide) dX9_isIn_18 ?_
      first | exact hQ _ _ ⟨(jb_f (by omega)).symm, rfl⟩ | exact hQ _ _ ⟨(jb_t (by omega)).symm, rfl⟩
theorem c_orNone (g : Cx) (w : Wd) (v : Int32) : CI g yX9_orNone cX9_orNone 1 (some .int) 1 0 0 [.int v] w (fun r w' => r = (if v.toInt < 0 then -1000000005 else v) ∧ w = w') := by
  refine CI.of (own := RX9) (nm := "orNone") (lv := [some (.int v)]) (by decide) rfl rfl (Nat.le_of_ble_eq_true rfl) rfl (fun Q hQ => ?_)
  refine jr_iload_n dX9_orNone_0 rfl ?_
  refine jr_if_ge 9 dX9_orNone_1 (by decide) (fun c_1 => ?_) (fun c_1 => ?_)
  · simp only [lt_i, le_i, eq_i, Int32.reduceToInt] at c_1
    refine jr_iload_n dX9_orNone_9 rfl ?_
    refine jr_iret rfl dX9_orNone_10 ?_
    first | exact hQ _ _ ⟨(if_pos (by omega)).symm, rfl⟩ | exact hQ _ _ ⟨(if_neg (by omega)).symm, rfl⟩
  · simp only [lt_i, le_i, eq_i, Int32.reduceToInt] at c_1
    refine jr_ldc (-1000000005) ckX9_67 dX9_orNone_4 ?_
    refine jr_goto 10 dX9_orNone_6 (by decide) ?_
    refine jr_iret rfl dX9_orNone_10 ?_
    first | exact hQ _ _ ⟨(if_pos (by omega)).symm, rfl⟩ | exact hQ _ _ ⟨(if_neg (by omega)).symm, rfl⟩
theorem c_mwithin (g : Cx) (w : Wd) (v m : Int32) : CI g yX9_within cX9_within 2 (some .int) 1 0 0 [.int v, .int m] w (fun r w' => r = (if v.toInt < 0 then 0 else if m.toInt < v.toInt then m else v) ∧ w = w') := by
  refine CI.of (own := RX9) (nm := "within") (lv := [some (.int v), some (.int m)]) (by decide) rfl rfl (Nat.le_of_ble_eq_true rfl) rfl (fun Q hQ => ?_)
  refine jr_iload_n dX9_within_0 rfl ?_
  refine jr_if_ge 8 dX9_within_1 (by decide) (fun c_1 => ?_) (fun c_1 => ?_)
  · simp only [lt_i, le_i, eq_i, Int32.reduceToInt] at c_1
    refine jr_iload_n dX9_within_8 rfl ?_
    refine jr_iload_n dX9_within_9 rfl ?_
    refine jr_icmp_le 17 dX9_within_10 (by decide) (fun c_10 => ?_) (fun c_10 => ?_)
    · simp only [lt_i, le_i, eq_i, Int32.reduceToInt] at c_10
      refine jr_iload_n dX9_within_17 rfl ?_
      refine jr_iret rfl dX9_within_18 ?_
      refine hQ _ _ ⟨?_, rfl⟩
      first | rw [if_pos (by omega)] | rw [if_neg (by omega), if_pos (by omega)] | rw [if_neg (by omega), if_neg (by omega)]
    · simp only [lt_i, le_i, eq_i, Int32.reduceToInt] at c_10
      refine jr_iload_n dX9_within_13 rfl ?_
      refine jr_goto 18 dX9_within_14 (by decide) ?_
      refine jr_iret rfl dX9_within_18 ?_
      refine hQ _ _ ⟨?_, rfl⟩
      first | rw [if_pos (by omega)] | rw [if_neg (by omega), if_pos (by omega)] | rw [if_neg (by omega), if_neg (by omega)]
  · simp only [lt_i, le_i, eq_i, Int32.reduceToInt] at c_1
    refine jr_iconst (0) dX9_within_4 (by decide) ?_
    refine jr_goto 18 dX9_within_5 (by decide) ?_
    refine jr_iret rfl dX9_within_18 ?_
    refine hQ _ _ ⟨?_, rfl⟩
    first | rw [if_pos (by omega)] | rw [if_neg (by omega), if_pos (by omega)] | rw [if_neg (by omega), if_neg (by omega)]
theorem c_off (g : Cx) (w : Wd) (a b : Int32) : CI g yX9_off cX9_off 2 (some .int) 1 0 0 [.int a, .int b] w (fun r w' => r = (if a.toInt < b.toInt then b - a else a - b) ∧ w = w') := by
  refine CI.of (own := RX9) (nm := "off") (lv := [some (.int a), some (.int b)]) (by decide) rfl rfl (Nat.le_of_ble_eq_true rfl) rfl (fun Q hQ => ?_)
  refine jr_iload_n dX9_off_0 rfl ?_
  refine jr_iload_n dX9_off_1 rfl ?_
  refine jr_icmp_ge 11 dX9_off_2 (by decide) (fun c_2 => ?_) (fun c_2 => ?_)
  · simp only [lt_i, le_i, eq_i, Int32.reduceToInt] at c_2
    refine jr_iload_n dX9_off_11 rfl ?_
    refine jr_iload_n dX9_off_12 rfl ?_
    refine jr_isub dX9_off_13 ?_
    refine jr_iret rfl dX9_off_14 ?_
    first | exact hQ _ _ ⟨(if_pos (by omega)).symm, rfl⟩ | exact hQ _ _ ⟨(if_neg (by omega)).symm, rfl⟩
  · simp only [lt_i, le_i, eq_i, Int32.reduceToInt] at c_2
    refine jr_iload_n dX9_off_5 rfl ?_
    refine jr_iload_n dX9_off_6 rfl ?_
    refine jr_isub dX9_off_7 ?_
    refine jr_goto 14 dX9_off_8 (by decide) ?_
    refine jr_iret rfl dX9_off_14 ?_
    first | exact hQ _ _ ⟨(if_pos (by omega)).symm, rfl⟩ | exact hQ _ _ ⟨(if_neg (by omega)).symm, rfl⟩
theorem c_mtextAt (g : Cx) (w : Wd) (t : Nat) : CI g yX9_textAt cX9_textAt 2 (some .int) 1 0 0 [.ref (gb g + 78), .int (nI t)] w (fun r w' => r = nI (40 + 200 * t) ∧ w = w') := by
  refine CI.of (own := RX9) (nm := "textAt") (lv := [some (.ref (gb g + 78)), some (.int (nI t))]) (by decide) rfl rfl (Nat.le_of_ble_eq_true rfl) rfl (fun Q hQ => ?_)
  refine jr_bipush (40) dX9_textAt_0 (by decide) ?_
  refine jr_sipush (200) dX9_textAt_2 (by decide) ?_
  refine jr_iload_n dX9_textAt_5 rfl ?_
  refine jr_imul dX9_textAt_6 ?_
  refine jr_iadd dX9_textAt_7 ?_
  refine jr_iret rfl dX9_textAt_8 ?_
  exact hQ _ _ ⟨by rw [show (40 : Int32) = nI 40 from rfl, show (200 : Int32) = nI 200 from rfl, pk_mul, nI_add], rfl⟩
theorem c_becomes (g : Cx) (w : Wd) (hw : Wf w) (k : Nat) (v : Int32) (hk : k < 3040) : CI g yX9_becomes cX9_becomes 4 (some .int) 1 0 0 [.ref (gb g + 78), .int (nI k), .int v] w (fun r w' => r = wI w 79 k ∧ w' = sR w 79 (upd (wI w 79) k v)) := by
  refine CI.of (own := RX9) (nm := "becomes") (lv := [some (.ref (gb g + 78)), some (.int (nI k)), some (.int v), none]) (by decide) rfl rfl (Nat.le_of_ble_eq_true rfl) rfl (fun Q hQ => ?_)
  refine jr_aload_n dX9_becomes_0 rfl ?_
  refine gfX9_7 79 dX9_becomes_1 (hw.k rfl) (hw.f rfl) ?_
  refine jr_iload_n dX9_becomes_4 rfl ?_
  refine jr_iald k (hw.k rfl) rfl ⟨hk, by decide⟩ dX9_becomes_5 ?_
  refine jr_istore_3 dX9_becomes_6 (by decide) rfl ?_
  refine jr_aload_n dX9_becomes_7 rfl ?_
  refine gfX9_7 79 dX9_becomes_8 (hw.k rfl) (hw.f rfl) ?_
  refine jr_iload_n dX9_becomes_11 rfl ?_
  refine jr_iload_n dX9_becomes_12 rfl ?_
  refine jr_iast k (hw.k rfl) rfl ⟨hk, by decide⟩ dX9_becomes_13 ?_
  refine jr_iload_n dX9_becomes_14 rfl ?_
  refine jr_iret rfl dX9_becomes_15 ?_
  exact hQ _ _ ⟨rfl, rfl⟩
theorem c_of (g : Cx) (w : Wd) (hw : Wf w) (k j : Nat) (hk : k < 6) (hj : j < 3) : CI g yX9_of cX9_of 3 (some .int) 1 0 0 [.ref (gb g + 78), .int (nI k), .int (nI j)] w (fun r w' => r = wI w 79 (10 + 3 * k + j) ∧ w = w') := by
  refine CI.of (own := RX9) (nm := "of") (lv := [some (.ref (gb g + 78)), some (.int (nI k)), some (.int (nI j))]) (by decide) rfl rfl (Nat.le_of_ble_eq_true rfl) rfl (fun Q hQ => ?_)
  refine jr_aload_n dX9_of_0 rfl ?_
  refine gfX9_7 79 dX9_of_1 (hw.k rfl) (hw.f rfl) ?_
  refine jr_bipush (10) dX9_of_4 (by decide) ?_
  refine jr_iconst (3) dX9_of_6 (by decide) ?_
  refine jr_iload_n dX9_of_7 rfl ?_
  refine jr_imul dX9_of_8 ?_
  refine jr_iadd dX9_of_9 ?_
  refine jr_iload_n dX9_of_10 rfl ?_
  refine jr_iadd dX9_of_11 ?_
  refine jr_iald (10 + 3 * k + j) (hw.k rfl) (by rw [show (10 : Int32) = nI 10 from rfl, show (3 : Int32) = nI 3 from rfl, pk_mul, nI_add, nI_add]) ⟨by omega, by decide⟩ dX9_of_12 ?_
  refine jr_iret rfl dX9_of_13 ?_
  exact hQ _ _ ⟨rfl, rfl⟩
theorem c_sets (g : Cx) (w : Wd) (hw : Wf w) (k j : Nat) (v : Int32) (hk : k < 6) (hj : j < 3) : CV g yX9_sets cX9_sets 4 1 0 0 [.ref (gb g + 78), .int (nI k), .int (nI j), .int v] w (fun w' => w' = sR w 79 (upd (wI w 79) (10 + 3 * k + j) v)) := by
  refine CV.of (own := RX9) (nm := "sets") (lv := [some (.ref (gb g + 78)), some (.int (nI k)), some (.int (nI j)), some (.int v)]) (by decide) rfl rfl (Nat.le_of_ble_eq_true rfl) rfl (fun Q hQ => ?_)
  refine jr_aload_n dX9_sets_0 rfl ?_
  refine gfX9_7 79 dX9_sets_1 (hw.k rfl) (hw.f rfl) ?_
  refine jr_bipush (10) dX9_sets_4 (by decide) ?_
  refine jr_iconst (3) dX9_sets_6 (by decide) ?_
  refine jr_iload_n dX9_sets_7 rfl ?_
  refine jr_imul dX9_sets_8 ?_
  refine jr_iadd dX9_sets_9 ?_
  refine jr_iload_n dX9_sets_10 rfl ?_
  refine jr_iadd dX9_sets_11 ?_
  refine jr_iload_n dX9_sets_12 rfl ?_
  refine jr_iast (10 + 3 * k + j) (hw.k rfl) (by rw [show (10 : Int32) = nI 10 from rfl, show (3 : Int32) = nI 3 from rfl, pk_mul, nI_add, nI_add]) ⟨by omega, by decide⟩ dX9_sets_13 ?_
  refine jr_vret rfl dX9_sets_14 ?_
  exact hQ _ rfl
theorem c_isClock (g : Cx) (w : Wd) (hw : Wf w) (x : Int32) (n : Nat) (hn : n ≤ 6) (h0 : wI w 79 0 = nI n) : CI g yX9_isClock cX9_isClock 2 (some .boolean) 2 0 0 [.ref (gb g + 78), .int x] w (fun r w' => r = jb (0 ≤ x.toInt ∧ x.toInt < n) ∧ w = w') := by
  refine CI.of (own := RX9) (nm := "isClock") (lv := [some (.ref (gb g + 78)), some (.int x)]) (by decide) rfl rfl (Nat.le_of_ble_eq_true rfl) rfl (fun Q hQ => ?_)
  refine jr_iload_n dX9_isClock_0 rfl ?_
  refine jr_i2l dX9_isClock_1 ?_
  refine jr_lconst 0 dX9_isClock_2 (by decide) ?_
  refine jr_aload_n dX9_isClock_3 rfl ?_
  refine gfX9_7 79 dX9_isClock_4 (hw.k rfl) (hw.f rfl) ?_
  refine jr_iconst (0) dX9_isClock_7 (by decide) ?_
  refine jr_iald 0 (hw.k rfl) rfl (by decide) dX9_isClock_8 ?_
  refine jr_iconst (1) dX9_isClock_9 (by decide) ?_
  refine jr_isub dX9_isClock_10 ?_
  refine jr_i2l dX9_isClock_11 ?_
  refine jc_Si (c_isIn g _ _ _ _) lkX9_68 rfl rfl (Nat.le_of_ble_eq_true rfl) (Nat.le_of_ble_eq_true rfl) dX9_isClock_12 (fun r_12 w_12 h_12 => ?_)
  obtain ⟨rfl, rfl⟩ := h_12
  refine jr_zret rfl jb_n dX9_isClock_15 ?_
  refine hQ _ _ ⟨?_, rfl⟩
  rw [h0, l_of_i, l_of_i]
  have e : (nI n - 1).toInt = (n : Int) - 1 := sub1_i (by omega)
  simp only [jb, e, Int64.reduceToInt]
  split <;> split <;> first | rfl | omega
theorem c_isText (g : Cx) (w : Wd) (hw : Wf w) (x : Int32) (n : Nat) (hn : n ≤ 14) (h0 : wI w 79 1 = nI n) : CI g yX9_isText cX9_isText 2 (some .boolean) 2 0 0 [.ref (gb g + 78), .int x] w (fun r w' => r = jb (0 ≤ x.toInt ∧ x.toInt < n) ∧ w = w') := by
  refine CI.of (own := RX9) (nm := "isText") (lv := [some (.ref (gb g + 78)), some (.int x)]) (by decide) rfl rfl (Nat.le_of_ble_eq_true rfl) rfl (fun Q hQ => ?_)
  refine jr_iload_n dX9_isText_0 rfl ?_
  refine jr_i2l dX9_isText_1 ?_
  refine jr_lconst 0 dX9_isText_2 (by decide) ?_
  refine jr_aload_n dX9_isText_3 rfl ?_
  refine gfX9_7 79 dX9_isText_4 (hw.k rfl) (hw.f rfl) ?_
  refine jr_iconst (1) dX9_isText_7 (by decide) ?_
  refine jr_iald 1 (hw.k rfl) rfl (by decide) dX9_isText_8 ?_
  refine jr_iconst (1) dX9_isText_9 (by decide) ?_
  refine jr_isub dX9_isText_10 ?_
  refine jr_i2l dX9_isText_11 ?_
  refine jc_Si (c_isIn g _ _ _ _) lkX9_68 rfl rfl (Nat.le_of_ble_eq_true rfl) (Nat.le_of_ble_eq_true rfl) dX9_isText_12 (fun r_12 w_12 h_12 => ?_)
  obtain ⟨rfl, rfl⟩ := h_12
  refine jr_zret rfl jb_n dX9_isText_15 ?_
  refine hQ _ _ ⟨?_, rfl⟩
  rw [h0, l_of_i, l_of_i]
  have e : (nI n - 1).toInt = (n : Int) - 1 := sub1_i (by omega)
  simp only [jb, e, Int64.reduceToInt]
  split <;> split <;> first | rfl | omega
def drawZ (z : Int32) : Int32 := z * 1103515245 + 12345
def drawV (z : Int32) : Int32 := ((drawZ z).toUInt32 >>> ((8 : Int32).toUInt32 &&& Int32.toUInt32 31)).toInt32
theorem c_drawn (g : Cx) (w : Wd) (hw : Wf w) : CI g yX9_drawn cX9_drawn 1 (some .int) 1 0 0 [.ref (gb g + 78)] w (fun r w' => r = drawV (wI w 79 9) ∧ w' = sR w 79 (upd (wI w 79) 9 (drawZ (wI w 79 9)))) := by
  refine CI.of (own := RX9) (nm := "drawn") (lv := [some (.ref (gb g + 78))]) (by decide) rfl rfl (Nat.le_of_ble_eq_true rfl) rfl (fun Q hQ => ?_)
  refine jr_aload_n dX9_drawn_0 rfl ?_
  refine gfX9_7 79 dX9_drawn_1 (hw.k rfl) (hw.f rfl) ?_
  refine jr_bipush (9) dX9_drawn_4 (by decide) ?_
  refine jr_aload_n dX9_drawn_6 rfl ?_
  refine gfX9_7 79 dX9_drawn_7 (hw.k rfl) (hw.f rfl) ?_
  refine jr_bipush (9) dX9_drawn_10 (by decide) ?_
  refine jr_iald 9 (hw.k rfl) rfl (by decide) dX9_drawn_12 ?_
  refine jr_ldc (1103515245) ckX9_72 dX9_drawn_13 ?_
  refine jr_imul dX9_drawn_15 ?_
  refine jr_sipush (12345) dX9_drawn_16 (by decide) ?_
  refine jr_iadd dX9_drawn_19 ?_
  refine jr_iast 9 (hw.k rfl) rfl (by decide) dX9_drawn_20 ?_
  refine jr_aload_n dX9_drawn_21 rfl ?_
  refine gfX9_7 79 dX9_drawn_22 (hw.k rfl) (hw.f rfl) ?_
  refine jr_bipush (9) dX9_drawn_25 (by decide) ?_
  refine jr_iald 9 (hw.k rfl) rfl (by decide) dX9_drawn_27 ?_
  refine jr_bipush (8) dX9_drawn_28 (by decide) ?_
  refine jr_iushr dX9_drawn_30 ?_
  refine jr_iret rfl dX9_drawn_31 ?_
  exact hQ _ _ ⟨by simp only [wI_sR_s, pk_us]; rfl, rfl⟩
def isOfF (o k : Int32) : Prop := o = k ∨ k = 0 ∨ (k = 1 ∧ o = 3) ∨ (k = 2 ∧ o = 4)
theorem c_mtimeNow (g : Cx) (w : Wd) (hw : Wf w) (n : Nat) (hn : n < 2 ^ 31) (h0 : wI w 79 2 = nI n) : CI g yX9_timeNow cX9_timeNow 1 (some .int) 1 0 0 [.ref (gb g + 78)] w (fun r w' => r = nI (n % 720) ∧ w = w') := by
  refine CI.of (own := RX9) (nm := "timeNow") (lv := [some (.ref (gb g + 78))]) (by decide) rfl rfl (Nat.le_of_ble_eq_true rfl) rfl (fun Q hQ => ?_)
  refine jr_aload_n dX9_timeNow_0 rfl ?_
  refine gfX9_7 79 dX9_timeNow_1 (hw.k rfl) (hw.f rfl) ?_
  refine jr_iconst (2) dX9_timeNow_4 (by decide) ?_
  refine jr_iald 2 (hw.k rfl) rfl (by decide) dX9_timeNow_5 ?_
  refine jr_sipush (720) dX9_timeNow_6 (by decide) ?_
  refine jr_irem dX9_timeNow_9 (by decide) ?_
  refine jr_iret rfl dX9_timeNow_10 ?_
  refine hQ _ _ ⟨?_, rfl⟩
  rw [h0]
  exact pk_rem hn (by decide) (by decide)
theorem c_isTime (g : Cx) (w : Wd) (x : Int32) : CI g yX9_isTime cX9_isTime 1 (some .boolean) 2 0 0 [.int x] w (fun r w' => r = jb (0 ≤ x.toInt ∧ x.toInt < 720) ∧ w = w') := by
  refine CI.of (own := RX9) (nm := "isTime") (lv := [some (.int x)]) (by decide) rfl rfl (Nat.le_of_ble_eq_true rfl) rfl (fun Q hQ => ?_)
  refine jr_iload_n dX9_isTime_0 rfl ?_
  refine jr_i2l dX9_isTime_1 ?_
  refine jr_lconst 0 dX9_isTime_2 (by decide) ?_
  refine jr_ldc2 (719) ckX9_105 dX9_isTime_3 ?_
  refine jc_Si (c_isIn g _ _ _ _) lkX9_68 rfl rfl (Nat.le_of_ble_eq_true rfl) (Nat.le_of_ble_eq_true rfl) dX9_isTime_6 (fun r_6 w_6 h_6 => ?_)
  obtain ⟨rfl, rfl⟩ := h_6
  refine jr_zret rfl jb_n dX9_isTime_9 ?_
  refine hQ _ _ ⟨?_, rfl⟩
  rw [l_of_i]
  simp only [jb, Int64.reduceToInt]
  split <;> split <;> first | rfl | omega
