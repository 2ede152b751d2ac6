-- the class's reader: numbers, names, a piece, and so a whole text
theorem c_six_no (g : Cx) (w : Wd) (i : Nat) (hi : i < 9) (x : Int32) (hx : 255 < x.toInt) : CI g yJ0_indexOf_0f7a4 cJ0_indexOf_0f7a4 2 (some .int) 7 0 0 [.ref (gx g (1 + i)), .int x] w (fun r w' => r = -1 ∧ w = w') := by
  have hl := slen_le i hi
  have h1 : CI g yJ1_indexOf_4cfef cJ1_indexOf_4cfef 4 (some .int) 2 0 0 [.ref (gx g (10 + i)), .int x, .int (nI 0), .int (nI (slen i))] w (fun r w' => r = -1 ∧ w = w') := by
    refine CI.of (own := RJ1) (nm := "indexOf") (lv := [some (.ref (gx g (10 + i))), some (.int x), some (.int (nI 0)), some (.int (nI (slen i)))]) (by decide) rfl rfl (Nat.le_of_ble_eq_true rfl) rfl (fun Q hQ => ?_)
    refine jr_iload_n dJ1_indexOf_4cfef_0 rfl ?_
    refine jc_Si (c_canEnc g _ _) lkJ1_88 rfl rfl (Nat.le_of_ble_eq_true rfl) (Nat.le_of_ble_eq_true rfl) dJ1_indexOf_4cfef_1 (fun r_1 w_1 h_1 => ?_)
    obtain ⟨rfl, rfl⟩ := h_1
    refine jr_if_ne 9 dJ1_indexOf_4cfef_4 (by decide) (fun c_4 => absurd (jb_f (by omega)) c_4) (fun c_4 => ?_)
    refine jr_iconst (-1) dJ1_indexOf_4cfef_7 (by decide) ?_
    refine jr_iret rfl dJ1_indexOf_4cfef_8 ?_
    exact hQ _ _ ⟨rfl, rfl⟩
  have h2 : CI g yJ0_indexOf_7cf53 cJ0_indexOf_7cf53 3 (some .int) 6 0 0 [.ref (gx g (1 + i)), .int x, .int (nI 0)] w (fun r w' => r = -1 ∧ w = w') := by
    refine CI.ofF (own := RJ0) (nm := "indexOf") (lv := [some (.ref (gx g (1 + i))), some (.int x), some (.int (nI 0))]) (by decide +kernel) rfl rfl (Nat.le_of_ble_eq_true rfl) rfl (fun Q hQ => ?_)
    refine jr_aload_n dJ0_indexOf_7cf53_0 rfl ?_
    refine jc_Xi (c_isLatin1 g _ i hi) hi lkJ0_492 rfl rfl (Nat.le_of_ble_eq_true rfl) (Nat.le_of_ble_eq_true rfl) dJ0_indexOf_7cf53_1 (fun r_1 w_1 h_1 => ?_)
    obtain ⟨rfl, rfl⟩ := h_1
    refine jr_if_eq 23 dJ0_indexOf_7cf53_4 (by decide) (fun c_4 => absurd c_4 (by decide)) (fun c_4 => ?_)
    refine jr_aload_n dJ0_indexOf_7cf53_7 rfl ?_
    refine jr_sValue hi flJ0_9 dJ0_indexOf_7cf53_8 ?_
    refine jr_iload_n dJ0_indexOf_7cf53_11 rfl ?_
    refine jr_iload_n dJ0_indexOf_7cf53_12 rfl ?_
    refine jr_aload_n dJ0_indexOf_7cf53_13 rfl ?_
    refine jc_Xi (c_slen g _ i hi) hi lkJ0_505 rfl rfl (Nat.le_of_ble_eq_true rfl) (Nat.le_of_ble_eq_true rfl) dJ0_indexOf_7cf53_14 (fun r_14 w_14 h_14 => ?_)
    obtain ⟨rfl, rfl⟩ := h_14
    refine jc_Si (h1) lkJ0_637 rfl rfl (Nat.le_of_ble_eq_true rfl) (Nat.le_of_ble_eq_true rfl) dJ0_indexOf_7cf53_17 (fun r_17 w_17 h_17 => ?_)
    obtain ⟨rfl, rfl⟩ := h_17
    refine jr_goto 36 dJ0_indexOf_7cf53_20 (by decide) ?_
    refine jr_iret rfl dJ0_indexOf_7cf53_36 ?_
    exact hQ _ _ ⟨rfl, rfl⟩
  refine CI.ofF (own := RJ0) (nm := "indexOf") (lv := [some (.ref (gx g (1 + i))), some (.int x)]) (by decide +kernel) rfl rfl (Nat.le_of_ble_eq_true rfl) rfl (fun Q hQ => ?_)
  refine jr_aload_n dJ0_indexOf_0f7a4_0 rfl ?_
  refine jr_iload_n dJ0_indexOf_0f7a4_1 rfl ?_
  refine jr_iconst (0) dJ0_indexOf_0f7a4_2 (by decide) ?_
  refine jc_Xi (h2) hi lkJ0_633 rfl rfl (Nat.le_of_ble_eq_true rfl) (Nat.le_of_ble_eq_true rfl) dJ0_indexOf_0f7a4_3 (fun r_3 w_3 h_3 => ?_)
  obtain ⟨rfl, rfl⟩ := h_3
  refine jr_iret rfl dJ0_indexOf_0f7a4_6 ?_
  exact hQ _ _ ⟨rfl, rfl⟩
theorem CsP.sa {w : Wd} {key a0 : Nat} {p : PS} (h : CsP w key a0 p) : CsP (sR w 43 (upd (wI w 43) 6 (nI (p.2.2.2.2.1 + 1)))) key a0 (psSa p) := by
  obtain ⟨h5, h6, h8, hs⟩ := h
  exact ⟨by rw [wI_sR_s, pk_un (by decide)]; exact h5, by rw [wI_sR_s, pk_us]; rfl, by rw [wI_sR_s, pk_un (by decide)]; exact h8, fun k hk => by rw [wI_sR_n _ (by decide)]; exact hs k hk⟩
theorem sx_dig {x : Int32} (h : ∃ c, c < 256 ∧ x = nI c) (hx : x.toInt < 128) : sx8 x = x := by
  obtain ⟨c, hc, rfl⟩ := h
  rw [i_nI (by omega)] at hx
  exact (sx_eq ⟨c, hc, rfl⟩ (b := c) (by omega)).mpr rfl
theorem c_readNumber (g : Cx) (w : Wd) (hw : Wf w) {T : Nat → Int32} {n a0 key B : Nat} (hn : n ≤ 96) (hTB : TpB T n) (hB : B ≤ 93) (p : PS) (hp : PI T n B p) (hk2 : p.1.2.2.1 = 2) (hT : CsT w T n p.1) (hP : CsP w key a0 p) : CI g yX6_readNumber cX6_readNumber 3 (some .boolean) 3 0 0 [.ref (gb g + 43)] w (fun r w' => r = 1 ∧ CsT w' T n (tokF T n p.1) ∧ CsP w' key a0 (psNx T n (psSa (psSt a0 0 p.1.2.2.2.1 p))) ∧ Sm scRd w w') := by
  obtain ⟨q1, q2, q3⟩ := hp.1.2.2.2.2.2.1 hk2
  obtain ⟨⟨hB0, hB1, hB2⟩, t2, t3, t4⟩ := id hT
  have hlt := hp.1.2.2.1 (by rw [hk2]; decide)
  have hle := hp.1.1
  have hla := hp.la (by rw [hk2]; decide)
  refine CI.of (own := RX6) (nm := "readNumber") (lv := [some (.ref (gb g + 43)), none, none]) (by decide) rfl rfl (Nat.le_of_ble_eq_true rfl) rfl (fun Q hQ => ?_)
  have K41 : ∀ (w1 : Wd) (x y : Int32), CsT w1 T n p.1 → CsP w1 key a0 (psSt a0 0 p.1.2.2.2.1 p) → Sm scRd w w1 → RR g RX6 cX6_readNumber 3 (some .boolean) "readNumber" 3 0 0 0 0 41 [some (.ref (gb g + 43)), some (.int x), some (.int y)] [] w1 Q := by
    intro w1 x y hT1 hP1 hS
    have hw1 := hS.wf hw
    have hP2 := hP1.sa
    have hT2 : CsT (sR w1 43 (upd (wI w1 43) 6 (nI ((psSt a0 0 p.1.2.2.2.1 p).2.2.2.2.1 + 1)))) T n p.1 := hT1.v (fun j hj => pk_un (by omega))
    have hAd := ad_c (g := g) (hw1.sR _ _) hn hTB hT2 hp.1
    refine jr_aload_n dX6_readNumber_41 rfl ?_
    refine jr_dup dX6_readNumber_42 rfl ?_
    refine gfX6_31 dX6_readNumber_43 (hw1.k rfl) ?_
    rw [hP1.2.1]
    refine jr_iconst (1) dX6_readNumber_46 (by decide) ?_
    refine jr_iadd dX6_readNumber_47 ?_
    rw [jlit 1, nI_add]
    refine pfX6_31 dX6_readNumber_48 (hw1.k rfl) ?_
    refine jr_aload_n dX6_readNumber_51 rfl ?_
    refine jc_Vv (hAd) lkX6_47 (hw1.k rfl) rfl rfl (Nat.le_of_ble_eq_true rfl) (Nat.le_of_ble_eq_true rfl) dX6_readNumber_52 (fun w_52 h_52 => ?_)
    obtain ⟨f2, rfl, hT3, ho2⟩ := h_52
    refine jr_iconst (1) dX6_readNumber_55 (by decide) ?_
    refine jr_zret rfl (by decide) dX6_readNumber_56 ?_
    exact hQ _ _ ⟨rfl, hT3, hP2.nx ho2, (hS.tr (Sm.sR (Or.inl rfl))).tr (Sm.sR (Or.inl rfl))⟩
  have L : ∀ (f i : Nat), f + i = p.1.2.1 - p.1.1 → RR g RX6 cX6_readNumber 3 (some .boolean) "readNumber" 3 0 0 0 0 7 [some (.ref (gb g + 43)), some (.int (numF T p.1.1 i)), some (.int (nI (p.1.1 + i)))] [] w Q := by
    intro f
    induction f with
    | zero =>
      intro i hi
      have e : i = p.1.2.1 - p.1.1 := by omega
      subst e
      rw [← q2]
      have hAS := c_addStep g w hw p.2.2.2.1 (by omega) hP.2.2.1 p.1.2.2.2.1
      refine jr_iload_n dX6_readNumber_7 rfl ?_
      refine jr_aload_n dX6_readNumber_8 rfl ?_
      refine gfX6_25 dX6_readNumber_9 (hw.k rfl) ?_
      rw [t4]
      refine jr_icmp_ge 36 dX6_readNumber_12 (by decide) (fun c_12 => ?_) (fun c_12 => absurd (nI_le (by omega) (by omega)) c_12)
      refine jr_aload_n dX6_readNumber_36 rfl ?_
      refine jr_iload_n dX6_readNumber_37 rfl ?_
      refine jc_Vv (hAS) lkX6_102 (hw.k rfl) rfl rfl (Nat.le_of_ble_eq_true rfl) (Nat.le_of_ble_eq_true rfl) dX6_readNumber_38 (fun w_38 h_38 => ?_)
      obtain ⟨z1, z2, z3⟩ := aS hT (by omega) hP.2.2.1 h_38
      exact K41 _ _ _ z1 (aS_P (a := 0) (b := p.1.2.2.2.1) hP (by omega) h_38) z3
    | succ f ih =>
      intro i hi
      have hd := q3 (p.1.1 + i) (by omega) (by omega)
      have hsx := sx_dig (hTB (p.1.1 + i) (by omega)) (by have := hd.2.2; omega)
      have h9 := ih (i + 1) (by omega)
      have en : numF T p.1.1 (i + 1) = numF T p.1.1 i * 10 + T (p.1.1 + i) - 48 := by
        simp only [numF]
        rw [if_pos (by omega), Int32.mul_comm]
      rw [en] at h9
      refine jr_iload_n dX6_readNumber_7 rfl ?_
      refine jr_aload_n dX6_readNumber_8 rfl ?_
      refine gfX6_25 dX6_readNumber_9 (hw.k rfl) ?_
      rw [t4]
      refine jr_icmp_ge 36 dX6_readNumber_12 (by decide) (fun c_12 => absurd c_12 (nI_ge (by omega) (by omega))) (fun c_12 => ?_)
      refine jr_iload_n dX6_readNumber_15 rfl ?_
      refine jr_bipush (10) dX6_readNumber_16 (by decide) ?_
      refine jr_imul dX6_readNumber_18 ?_
      refine jr_aload_n dX6_readNumber_19 rfl ?_
      refine gfX6_9 46 dX6_readNumber_20 (hw.k rfl) (by exact hB0) ?_
      refine jr_iload_n dX6_readNumber_23 rfl ?_
      refine jr_bald (p.1.1 + i) (hw.k rfl) rfl ⟨by omega, by decide⟩ dX6_readNumber_24 ?_
      rw [hB2 _ (by omega), hsx]
      refine jr_iadd dX6_readNumber_25 ?_
      refine jr_bipush (48) dX6_readNumber_26 (by decide) ?_
      refine jr_isub dX6_readNumber_28 ?_
      refine jr_istore_1 dX6_readNumber_29 (by decide) rfl ?_
      refine jr_iinc_2 (nI (p.1.1 + (i + 1))) dX6_readNumber_30 (inc1 _) (by decide) rfl ?_
      refine jr_goto 7 dX6_readNumber_33 (by decide) ?_
      exact h9
  refine jr_iconst (0) dX6_readNumber_0 (by decide) ?_
  refine jr_istore_1 dX6_readNumber_1 (by decide) rfl ?_
  refine jr_aload_n dX6_readNumber_2 rfl ?_
  refine gfX6_22 dX6_readNumber_3 (hw.k rfl) ?_
  rw [t3]
  refine jr_istore_2 dX6_readNumber_6 (by decide) rfl ?_
  exact L _ 0 rfl
theorem sl3 : ∀ key, key < 3 → 0 < slen (3 + key) := by decide
def nmB (key c : Nat) : Bool := if nmP (nI key) (nI c) then decide (sIx (3 + key) (nI c) (slen (3 + key)) 0 = -1 - nmC (nI c)) && decide (0 ≤ (-1 - nmC (nI c) : Int32)) else decide (sIx (3 + key) (nI c) (slen (3 + key)) 0 = -1)
theorem nmB_t : ∀ key, key < 3 → ∀ c, c < 128 → nmB key c = true := by decide +kernel
/-- names of the three keys, and their places in the class's strings -/
theorem nm_ix : ∀ key, key < 3 → ∀ c, c < 128 → (nmP (nI key) (nI c) → sIx (3 + key) (nI c) (slen (3 + key)) 0 = -1 - nmC (nI c) ∧ 0 ≤ (-1 - nmC (nI c) : Int32)) ∧ (¬ nmP (nI key) (nI c) → sIx (3 + key) (nI c) (slen (3 + key)) 0 = -1) := by
  intro key hk c hc
  have h := nmB_t key hk c hc
  unfold nmB at h
  refine ⟨fun a => ?_, fun a => ?_⟩
  · rw [if_pos a, Bool.and_eq_true, decide_eq_true_eq, decide_eq_true_eq] at h
    exact h
  · rw [if_neg a, decide_eq_true_eq] at h
    exact h
theorem i2c_n : ∀ c, c < 128 → ((nI c).toUInt32 % 65536).toInt32 = nI c := by decide +kernel
theorem i2c_b : ∀ c, c < 256 → 128 ≤ c → 255 < (((sx8 (nI c)).toUInt32 % 65536).toInt32).toInt := by decide +kernel
theorem sx_n128 : ∀ c, c < 128 → sx8 (nI c) = nI c := by decide +kernel
theorem c_readName (g : Cx) (w : Wd) (hw : Wf w) {T : Nat → Int32} {n a0 key B : Nat} (hn : n ≤ 96) (hTB : TpB T n) (hB : B ≤ 93) (hkey : key ≤ 2) (p : PS) (hp : PI T n B p) (hk1 : p.1.2.2.1 = 1) (hT : CsT w T n p.1) (hP : CsP w key a0 p) : CI g yX6_readName cX6_readName 3 (some .boolean) 8 0 0 [.ref (gb g + 43)] w (fun r w' => ((¬ p.1.2.2.2.2 = 0 ∧ nmP (nI key) p.1.2.2.2.2) ∧ r = 1 ∧ CsT w' T n (tokF T n p.1) ∧ CsP w' key a0 (psNx T n (psSa (psSt a0 1 p.1.2.2.2.2 p))) ∧ Sm scRd w w') ∨ (¬ (¬ p.1.2.2.2.2 = 0 ∧ nmP (nI key) p.1.2.2.2.2) ∧ r = 0 ∧ w = w')) := by
  have hlet := hp.1.2.2.2.2.1 hk1
  obtain ⟨⟨hB0, hB1, hB2⟩, t2, t3, t4⟩ := id hT
  have hlt := hp.1.2.2.1 (by rw [hk1]; decide)
  have hle := hp.1.1
  have hla := hp.la (by rw [hk1]; decide)
  refine CI.of (own := RX6) (nm := "readName") (lv := [some (.ref (gb g + 43)), none, none]) (by decide) rfl rfl (Nat.le_of_ble_eq_true rfl) rfl (fun Q hQ => ?_)
  have K73 : ∀ (w1 : Wd) (x : Int32), (¬ p.1.2.2.2.2 = 0 ∧ nmP (nI key) p.1.2.2.2.2) → CsT w1 T n p.1 → CsP w1 key a0 (psSt a0 1 p.1.2.2.2.2 p) → Sm scRd w w1 → RR g RX6 cX6_readName 3 (some .boolean) "readName" 8 0 0 0 0 73 [some (.ref (gb g + 43)), some (.ref (gx g (1 + (3 + key)))), some (.int x)] [] w1 Q := by
    intro w1 x hy hT1 hP1 hS
    have hw1 := hS.wf hw
    have hP2 := hP1.sa
    have hT2 : CsT (sR w1 43 (upd (wI w1 43) 6 (nI ((psSt a0 1 p.1.2.2.2.2 p).2.2.2.2.1 + 1)))) T n p.1 := hT1.v (fun j hj => pk_un (by omega))
    have hAd := ad_c (g := g) (hw1.sR _ _) hn hTB hT2 hp.1
    refine jr_aload_n dX6_readName_73 rfl ?_
    refine jr_dup dX6_readName_74 rfl ?_
    refine gfX6_31 dX6_readName_75 (hw1.k rfl) ?_
    rw [hP1.2.1]
    refine jr_iconst (1) dX6_readName_78 (by decide) ?_
    refine jr_iadd dX6_readName_79 ?_
    rw [jlit 1, nI_add]
    refine pfX6_31 dX6_readName_80 (hw1.k rfl) ?_
    refine jr_aload_n dX6_readName_83 rfl ?_
    refine jc_Vv (hAd) lkX6_47 (hw1.k rfl) rfl rfl (Nat.le_of_ble_eq_true rfl) (Nat.le_of_ble_eq_true rfl) dX6_readName_84 (fun w_84 h_84 => ?_)
    obtain ⟨f2, rfl, hT3, ho2⟩ := h_84
    refine jr_iconst (1) dX6_readName_87 (by decide) ?_
    refine jr_zret rfl (by decide) dX6_readName_88 ?_
    exact hQ _ _ (Or.inl ⟨hy, rfl, hT3, hP2.nx ho2, (hS.tr (Sm.sR (Or.inl rfl))).tr (Sm.sR (Or.inl rfl))⟩)
  have bad : ¬ (¬ p.1.2.2.2.2 = 0 ∧ nmP (nI key) p.1.2.2.2.2) → RR g RX6 cX6_readName 3 (some .boolean) "readName" 8 0 0 0 0 59 [some (.ref (gb g + 43)), some (.ref (gx g (1 + (3 + key)))), none] [.int (-1)] w Q := by
    intro hno
    refine jr_istore_2 dX6_readName_59 (by decide) rfl ?_
    refine jr_iload_n dX6_readName_60 rfl ?_
    refine jr_if_ge 66 dX6_readName_61 (by decide) (fun c_61 => absurd c_61 (by decide)) (fun c_61 => ?_)
    refine jr_iconst (0) dX6_readName_64 (by decide) ?_
    refine jr_zret rfl (by decide) dX6_readName_65 ?_
    exact hQ _ _ (Or.inr ⟨hno, rfl, rfl⟩)
  have good : (¬ p.1.2.2.2.2 = 0 ∧ nmP (nI key) p.1.2.2.2.2) → (0 ≤ (-1 - nmC p.1.2.2.2.2 : Int32)) → RR g RX6 cX6_readName 3 (some .boolean) "readName" 8 0 0 0 0 59 [some (.ref (gb g + 43)), some (.ref (gx g (1 + (3 + key)))), none] [.int (-1 - nmC p.1.2.2.2.2)] w Q := by
    intro hy h0
    have ee : (-1 : Int32) - (-1 - nmC p.1.2.2.2.2) = encF 1 p.1.2.2.2.2 := by
      rw [encF, if_neg (by decide), if_pos (by decide)]
      rw [Int32.sub_eq_add_neg, Int32.neg_sub, Int32.add_comm, Int32.sub_add_cancel]
    have hAS := c_addStep g w hw p.2.2.2.1 (by omega) hP.2.2.1 (encF 1 p.1.2.2.2.2)
    refine jr_istore_2 dX6_readName_59 (by decide) rfl ?_
    refine jr_iload_n dX6_readName_60 rfl ?_
    refine jr_if_ge 66 dX6_readName_61 (by decide) (fun c_61 => ?_) (fun c_61 => absurd h0 c_61)
    refine jr_aload_n dX6_readName_66 rfl ?_
    refine jr_iconst (-1) dX6_readName_67 (by decide) ?_
    refine jr_iload_n dX6_readName_68 rfl ?_
    refine jr_isub dX6_readName_69 ?_
    rw [ee]
    refine jc_Vv (hAS) lkX6_102 (hw.k rfl) rfl rfl (Nat.le_of_ble_eq_true rfl) (Nat.le_of_ble_eq_true rfl) dX6_readName_70 (fun w_70 h_70 => ?_)
    obtain ⟨z1, z2, z3⟩ := aS hT (by omega) hP.2.2.1 h_70
    exact K73 _ _ hy z1 (aS_P (a := 1) (b := p.1.2.2.2.2) hP (by omega) h_70) z3
  have K27 : RR g RX6 cX6_readName 3 (some .boolean) "readName" 8 0 0 0 0 27 [some (.ref (gb g + 43)), none, none] [.ref (gx g (1 + (3 + key)))] w Q := by
    by_cases h1 : p.1.2.1 - p.1.1 = 1
    · rw [if_pos h1] at hlet
      obtain ⟨c, hc, ec⟩ := hTB p.1.1 (by omega)
      by_cases h128 : c < 128
      · have e1 : sx8 (T p.1.1) = nI c := by rw [ec]; exact sx_n128 c h128
        have hI := c_six g w (3 + key) (by omega) (sl3 key (by omega)) (nI c) (sx_n128 c h128) (by rw [i_nI (by omega)]; omega)
        obtain ⟨n1, n2⟩ := nm_ix key (by omega) c h128
        by_cases hnm : nmP (nI key) (nI c)
        · have hy : ¬ p.1.2.2.2.2 = 0 ∧ nmP (nI key) p.1.2.2.2.2 := by
            rw [hlet, ec]
            refine ⟨fun e => ?_, hnm⟩
            rw [e] at hnm
            have e0 : (0 : Int32).toInt = 0 := rfl
            unfold nmP at hnm
            rw [e0] at hnm
            omega
          obtain ⟨m1, m2⟩ := n1 hnm
          have h9 := good hy (by rw [hlet, ec]; exact m2)
          rw [hlet, ec, ← m1] at h9
          refine jr_astore_1 dX6_readName_27 (by decide) rfl ?_
          refine jr_aload_n dX6_readName_28 rfl ?_
          refine gfX6_25 dX6_readName_29 (hw.k rfl) ?_
          rw [t4]
          refine jr_aload_n dX6_readName_32 rfl ?_
          refine gfX6_22 dX6_readName_33 (hw.k rfl) ?_
          rw [t3]
          refine jr_isub dX6_readName_36 ?_
          rw [pk_sub (by omega), h1]
          refine jr_iconst (1) dX6_readName_37 (by decide) ?_
          refine jr_icmp_ne 58 dX6_readName_38 (by decide) (fun c_38 => absurd rfl c_38) (fun c_38 => ?_)
          refine jr_aload_n dX6_readName_41 rfl ?_
          refine jr_aload_n dX6_readName_42 rfl ?_
          refine gfX6_9 46 dX6_readName_43 (hw.k rfl) (by exact hB0) ?_
          refine jr_aload_n dX6_readName_46 rfl ?_
          refine gfX6_22 dX6_readName_47 (hw.k rfl) ?_
          rw [t3]
          refine jr_bald p.1.1 (hw.k rfl) rfl ⟨by omega, by decide⟩ dX6_readName_50 ?_
          rw [hB2 _ (by omega), e1]
          refine jr_i2c dX6_readName_51 ?_
          rw [i2c_n c h128]
          refine jc_Xi hI (by omega) lkX6_140 rfl rfl (Nat.le_of_ble_eq_true rfl) (Nat.le_of_ble_eq_true rfl) dX6_readName_52 (fun r_52 w_52 h_52 => ?_)
          obtain ⟨rfl, rfl⟩ := h_52
          refine jr_goto 59 dX6_readName_55 (by decide) ?_
          exact h9
        · have h9 := bad (fun h => hnm (by have := h.2; rw [hlet, ec] at this; exact this))
          refine jr_astore_1 dX6_readName_27 (by decide) rfl ?_
          refine jr_aload_n dX6_readName_28 rfl ?_
          refine gfX6_25 dX6_readName_29 (hw.k rfl) ?_
          rw [t4]
          refine jr_aload_n dX6_readName_32 rfl ?_
          refine gfX6_22 dX6_readName_33 (hw.k rfl) ?_
          rw [t3]
          refine jr_isub dX6_readName_36 ?_
          rw [pk_sub (by omega), h1]
          refine jr_iconst (1) dX6_readName_37 (by decide) ?_
          refine jr_icmp_ne 58 dX6_readName_38 (by decide) (fun c_38 => absurd rfl c_38) (fun c_38 => ?_)
          refine jr_aload_n dX6_readName_41 rfl ?_
          refine jr_aload_n dX6_readName_42 rfl ?_
          refine gfX6_9 46 dX6_readName_43 (hw.k rfl) (by exact hB0) ?_
          refine jr_aload_n dX6_readName_46 rfl ?_
          refine gfX6_22 dX6_readName_47 (hw.k rfl) ?_
          rw [t3]
          refine jr_bald p.1.1 (hw.k rfl) rfl ⟨by omega, by decide⟩ dX6_readName_50 ?_
          rw [hB2 _ (by omega), e1]
          refine jr_i2c dX6_readName_51 ?_
          rw [i2c_n c h128]
          refine jc_Xi hI (by omega) lkX6_140 rfl rfl (Nat.le_of_ble_eq_true rfl) (Nat.le_of_ble_eq_true rfl) dX6_readName_52 (fun r_52 w_52 h_52 => ?_)
          obtain ⟨rfl, rfl⟩ := h_52
          rw [n2 hnm]
          refine jr_goto 59 dX6_readName_55 (by decide) ?_
          exact h9
      · have hI := c_six_no g w (3 + key) (by omega) _ (i2c_b c hc (by omega))
        have h9 := bad (fun h => by
          have h2 := h.2
          rw [hlet, ec] at h2
          have ei : (nI c).toInt = (c : Int) := i_nI (by omega)
          unfold nmP at h2
          rw [ei] at h2
          omega)
        refine jr_astore_1 dX6_readName_27 (by decide) rfl ?_
        refine jr_aload_n dX6_readName_28 rfl ?_
        refine gfX6_25 dX6_readName_29 (hw.k rfl) ?_
        rw [t4]
        refine jr_aload_n dX6_readName_32 rfl ?_
        refine gfX6_22 dX6_readName_33 (hw.k rfl) ?_
        rw [t3]
        refine jr_isub dX6_readName_36 ?_
        rw [pk_sub (by omega), h1]
        refine jr_iconst (1) dX6_readName_37 (by decide) ?_
        refine jr_icmp_ne 58 dX6_readName_38 (by decide) (fun c_38 => absurd rfl c_38) (fun c_38 => ?_)
        refine jr_aload_n dX6_readName_41 rfl ?_
        refine jr_aload_n dX6_readName_42 rfl ?_
        refine gfX6_9 46 dX6_readName_43 (hw.k rfl) (by exact hB0) ?_
        refine jr_aload_n dX6_readName_46 rfl ?_
        refine gfX6_22 dX6_readName_47 (hw.k rfl) ?_
        rw [t3]
        refine jr_bald p.1.1 (hw.k rfl) rfl ⟨by omega, by decide⟩ dX6_readName_50 ?_
        rw [hB2 _ (by omega), ec]
        refine jr_i2c dX6_readName_51 ?_
        refine jc_Xi hI (by omega) lkX6_140 rfl rfl (Nat.le_of_ble_eq_true rfl) (Nat.le_of_ble_eq_true rfl) dX6_readName_52 (fun r_52 w_52 h_52 => ?_)
        obtain ⟨rfl, rfl⟩ := h_52
        refine jr_goto 59 dX6_readName_55 (by decide) ?_
        exact h9
    · rw [if_neg h1] at hlet
      have h9 := bad (fun h => h.1 hlet)
      refine jr_astore_1 dX6_readName_27 (by decide) rfl ?_
      refine jr_aload_n dX6_readName_28 rfl ?_
      refine gfX6_25 dX6_readName_29 (hw.k rfl) ?_
      rw [t4]
      refine jr_aload_n dX6_readName_32 rfl ?_
      refine gfX6_22 dX6_readName_33 (hw.k rfl) ?_
      rw [t3]
      refine jr_isub dX6_readName_36 ?_
      rw [pk_sub (by omega)]
      refine jr_iconst (1) dX6_readName_37 (by decide) ?_
      refine jr_icmp_ne 58 dX6_readName_38 (by decide) (fun c_38 => ?_) (fun c_38 => absurd c_38 (fun h => h1 (nI_inj (by omega) (by decide) h)))
      refine jr_iconst (-1) dX6_readName_58 (by decide) ?_
      exact h9
  have hk5 := hP.1
  have hc3 : key = 0 ∨ key = 1 ∨ key = 2 := by omega
  rcases hc3 with rfl | rfl | rfl
  · refine jr_aload_n dX6_readName_0 rfl ?_
    refine gfX6_28 dX6_readName_1 (hw.k rfl) ?_
    rw [hk5]
    refine jr_if_ne 12 dX6_readName_4 (by decide) (fun c_4 => absurd rfl c_4) (fun c_4 => ?_)
    refine jr_ldcS (i := 3) (q := (134, "oth")) rfl rfl dX6_readName_7 ?_
    refine jr_goto 27 dX6_readName_9 (by decide) ?_
    exact K27
  · refine jr_aload_n dX6_readName_0 rfl ?_
    refine gfX6_28 dX6_readName_1 (hw.k rfl) ?_
    rw [hk5]
    refine jr_if_ne 12 dX6_readName_4 (by decide) (fun c_4 => ?_) (fun c_4 => absurd c_4 (by decide))
    refine jr_aload_n dX6_readName_12 rfl ?_
    refine gfX6_28 dX6_readName_13 (hw.k rfl) ?_
    rw [hk5]
    refine jr_iconst (1) dX6_readName_16 (by decide) ?_
    refine jr_icmp_ne 25 dX6_readName_17 (by decide) (fun c_17 => absurd rfl c_17) (fun c_17 => ?_)
    refine jr_ldcS (i := 4) (q := (136, "em")) rfl rfl dX6_readName_20 ?_
    refine jr_goto 27 dX6_readName_22 (by decide) ?_
    exact K27
  · refine jr_aload_n dX6_readName_0 rfl ?_
    refine gfX6_28 dX6_readName_1 (hw.k rfl) ?_
    rw [hk5]
    refine jr_if_ne 12 dX6_readName_4 (by decide) (fun c_4 => ?_) (fun c_4 => absurd c_4 (by decide))
    refine jr_aload_n dX6_readName_12 rfl ?_
    refine gfX6_28 dX6_readName_13 (hw.k rfl) ?_
    rw [hk5]
    refine jr_iconst (1) dX6_readName_16 (by decide) ?_
    refine jr_icmp_ne 25 dX6_readName_17 (by decide) (fun c_17 => ?_) (fun c_17 => absurd c_17 (by decide))
    refine jr_ldcS (i := 5) (q := (138, "ot")) rfl rfl dX6_readName_25 ?_
    exact K27
theorem c_readPiece (g : Cx) {T : Nat → Int32} {n B a0 key : Nat} (hn : n ≤ 96) (hTB : TpB T n) (hB : B ≤ 93) (hk : key ≤ 2) : ∀ f d, 6 * f + 10 ≤ d → RcC g yX6_readPiece cX6_readPiece 4 T n B a0 key f d (psPt T n a0 (nI key) f) := by
  intro f
  induction f with
  | zero =>
    intro d hd w hw p D U eD eU hp hf hT hP
    have h1 := hp.2.1
    have h2 := hp.2.2.1
    omega
  | succ f ih =>
    intro d hd w hw p D U eD eU hp hf hT hP
    have hGo := Pt_ok (T := T) (n := n) (a0 := a0) (B := B) hk f
    have hPc : RcC g yX6_readPiece cX6_readPiece 4 T n B a0 key f (d - 6) (psPt T n a0 (nI key) f) := ih (d - 6) (by omega)
    have hE : RcC g yX6_readOr cX6_readOr 5 T n B a0 key f (d - 6 + 1 + 1 + 1 + 1 + 1) (psEi T n a0 (psPt T n a0 (nI key) f)) :=
      c_readOr g hn hTB hB (by omega) (Bi_ok opAn_s (Te_ok opCm_s (Bi_ok opSu_s (Bi_ok opTe_s hGo)))) (c_readAnd g hn hTB hB (by omega) (Te_ok opCm_s (Bi_ok opSu_s (Bi_ok opTe_s hGo))) (c_readTest g hn hTB hB (by omega) (Bi_ok opSu_s (Bi_ok opTe_s hGo)) (c_readSum g hn hTB hB (by omega) (Bi_ok opTe_s hGo) (c_readTerm g hn hTB hB (by omega) hGo hPc))))
    refine CI.of (own := RX6) (nm := "readPiece") (lv := [some (.ref (gb g + 43)), some (.int (nI D)), some (.int (nI U)), none]) (by decide) rfl rfl (Nat.le_of_ble_eq_true rfl) rfl (fun Q hQ => ?_)
    have hdp := hp.2.1
    have htu := hp.2.2.1
    have hAd := fun h => ad_c (g := g) hw hn hTB hT h
    obtain ⟨-, t2, t3, t4⟩ := id hT
    have hlb : p.2.2.2.1 ≤ 96 := by
      have a1 := hp.2.2.2
      have a3 := hp.1.1
      have a4 := hp.1.2.1
      omega
    have fail : psPt T n a0 (nI key) (f + 1) p = (false, p) → Q (some (.int 0)) w := fun e => hQ _ _ ⟨by rw [e]; exact jb_f' Bool.false_ne_true, by rw [e]; exact hT, by rw [e]; exact fun h => absurd h Bool.false_ne_true, ⟨_, hlb, hP.2.2.1⟩, Sm.rf⟩
    by_cases c1 : p.1.2.2.1 = 2
    · have e1 : psPt T n a0 (nI key) (f + 1) p = (true, psNx T n (psSa (psSt a0 0 p.1.2.2.2.1 p))) := by
        simp only [psPt]
        rw [if_pos c1]
      have hla := hp.la (by rw [c1]; decide)
      have hN := c_readNumber g w hw (a0 := a0) (key := key) hn hTB hB p hp c1 hT hP
      refine jr_aload_n dX6_readPiece_0 rfl ?_
      refine gfX6_19 dX6_readPiece_1 (hw.k rfl) ?_
      rw [t2]
      refine jr_iconst (1) dX6_readPiece_4 (by decide) ?_
      refine jr_icmp_ne 13 dX6_readPiece_5 (by decide) (fun c_5 => absurd (kmC_1.mpr c1) c_5) (fun c_5 => ?_)
      refine jr_aload_n dX6_readPiece_8 rfl ?_
      refine jc_Vi (hN) lkX6_128 (hw.k rfl) rfl rfl (by omega) (Nat.le_of_ble_eq_true rfl) dX6_readPiece_9 (fun r_9 w_9 h_9 => ?_)
      obtain ⟨rfl, z1, z2, z3⟩ := h_9
      refine jr_zret rfl (by decide) dX6_readPiece_12 ?_
      exact hQ _ _ ⟨by rw [e1]; exact jb_t' rfl, by rw [e1]; exact z1, by rw [e1]; exact fun _ => z2, ⟨p.2.2.2.1 + 1, by omega, z2.2.2.1⟩, z3⟩
    · by_cases c0 : p.1.2.2.1 = 1
      · have hla := hp.la (by rw [c0]; decide)
        have hN := c_readName g w hw (a0 := a0) (key := key) hn hTB hB hk p hp c0 hT hP
        refine jr_aload_n dX6_readPiece_0 rfl ?_
        refine gfX6_19 dX6_readPiece_1 (hw.k rfl) ?_
        rw [t2]
        refine jr_iconst (1) dX6_readPiece_4 (by decide) ?_
        refine jr_icmp_ne 13 dX6_readPiece_5 (by decide) (fun c_5 => ?_) (fun c_5 => absurd c_5 (fun h => c1 (kmC_1.mp h)))
        refine jr_aload_n dX6_readPiece_13 rfl ?_
        refine gfX6_19 dX6_readPiece_14 (hw.k rfl) ?_
        rw [t2]
        refine jr_iconst (2) dX6_readPiece_17 (by decide) ?_
        refine jr_icmp_ne 26 dX6_readPiece_18 (by decide) (fun c_18 => absurd (kmC_2.mpr c0) c_18) (fun c_18 => ?_)
        refine jr_aload_n dX6_readPiece_21 rfl ?_
        refine jc_Vi (hN) lkX6_131 (hw.k rfl) rfl rfl (by omega) (Nat.le_of_ble_eq_true rfl) dX6_readPiece_22 (fun r_22 w_22 h_22 => ?_)
        rcases h_22 with ⟨hy, rfl, z1, z2, z3⟩ | ⟨hno, rfl, rfl⟩
        · refine jr_zret rfl (by decide) dX6_readPiece_25 ?_
          have e1 : psPt T n a0 (nI key) (f + 1) p = (true, psNx T n (psSa (psSt a0 1 p.1.2.2.2.2 p))) := by
            simp only [psPt]
            rw [if_neg c1, if_pos ⟨c0, hy⟩]
          exact hQ _ _ ⟨by rw [e1]; exact jb_t' rfl, by rw [e1]; exact z1, by rw [e1]; exact fun _ => z2, ⟨p.2.2.2.1 + 1, by omega, z2.2.2.1⟩, z3⟩
        · refine jr_zret rfl (by decide) dX6_readPiece_25 ?_
          refine fail ?_
          simp only [psPt]
          rw [if_neg c1, if_neg (fun h => hno h.2), if_neg (fun h => by have := h.1.1; rw [c0] at this; exact absurd this (by decide)), if_pos (Or.inl (fun h => by have := h.1; rw [c0] at this; exact absurd this (by decide)))]
      · have c2 : ¬ (p.1.2.2.1 = 1 ∧ ¬ p.1.2.2.2.2 = 0 ∧ nmP (nI key) p.1.2.2.2.2) := fun h => c0 h.1
        have hS33 := c_rSign g w hw T n hn hTB p.1 hT hp.1 33 (by decide)
        have hS40 := c_rSign g w hw T n hn hTB p.1 hT hp.1 40 (by decide)
        have K26 : RR g RX6 cX6_readPiece 4 (some .boolean) "readPiece" d 0 0 0 0 26 [some (.ref (gb g + 43)), some (.int (nI D)), some (.int (nI U)), none] [] w Q := by
          by_cases c3 : psSg 33 p ∧ p.2.2.1 < 8
          · have h0 : ¬ p.1.2.2.1 = 0 := by rw [c3.1.1]; decide
            have w1 : Wk key a0 B 0 0 p (psTn (p.2.2.1 + 1) p) := Wk_eq rfl rfl rfl
            have w2 : Wk key a0 B 1 0 (psTn (p.2.2.1 + 1) p) (psNx T n (psTn (p.2.2.1 + 1) p)) := Wk_nx hp.1 h0
            have w3 : Wk key a0 B 1 0 p (psNx T n (psTn (p.2.2.1 + 1) p)) := w1.tr w2 (by omega) (by omega)
            have hq : PI T n B (psNx T n (psTn (p.2.2.1 + 1) p)) := hp.to w3 (by omega) (tokF_I hp.1.1).1 hp.2.1 (show p.2.2.1 + 1 ≤ 8 by omega)
            obtain ⟨s1, s2, s3⟩ := hGo _ hq
            have hC := fun w hw hT hP => hPc w hw (psNx T n (psTn (p.2.2.1 + 1) p)) D (U + 1) eD (by rw [← eU]; rfl) hq (by omega) hT hP
            obtain ⟨r, er⟩ : ∃ r, r = psPt T n a0 (nI key) f (psNx T n (psTn (p.2.2.1 + 1) p)) := ⟨_, rfl⟩
            rw [← er] at s1 s2 s3 hC
            have K53 : ∀ w2 x, x = jb (r.1 = true) → CsT w2 T n r.2.1 → (r.1 = true → CsP w2 key a0 r.2) → (∃ c, c ≤ 96 ∧ wI w2 43 8 = nI c) → Sm scRd w w2 → RR g RX6 cX6_readPiece 4 (some .boolean) "readPiece" d 0 0 0 0 53 [some (.ref (gb g + 43)), some (.int (nI D)), some (.int (nI U)), none] [.int x] w2 Q := by
              intro w2 x ex hT2 hP2 hc2 hS2
              have hw2 := hS2.wf hw
              by_cases h1 : r.1 = true
              · have e1 : psPt T n a0 (nI key) (f + 1) p = (true, psSt a0 2 33 (psTn (r.2.2.2.1 - 1) r.2)) := by
                  simp only [psPt]
                  rw [if_neg c1, if_neg c2, if_pos c3, ← er, if_pos h1]
                obtain ⟨v1, d1, t1⟩ := s3 h1
                have v2 : Wk key a0 B 1 1 p r.2 := w3.tr v1 (by omega) (by omega)
                have hlb2 : r.2.2.2.2.1 < B := by
                  have a1 := hp.2.2.2
                  have a2 := v2.2.1
                  have a3 := s1.1
                  have a4 := s1.2.1
                  omega
                have hPP := hP2 h1
                have hPP2 : CsP w2 key a0 (psTn (r.2.2.2.1 - 1) r.2) := hPP
                rw [jb_t h1] at ex
                subst ex
                have hAS := c_addStep g w2 hw2 r.2.2.2.2.1 (by omega) hPP.2.2.1 (-33)
                refine jr_istore_3 dX6_readPiece_53 (by decide) rfl ?_
                refine jr_aload_n dX6_readPiece_54 rfl ?_
                refine jr_bipush (-33) dX6_readPiece_55 (by decide) ?_
                refine jc_Vv (hAS) lkX6_102 (hw2.k rfl) rfl rfl (by omega) (Nat.le_of_ble_eq_true rfl) dX6_readPiece_57 (fun w_57 h_57 => ?_)
                refine jr_iload_n dX6_readPiece_60 rfl ?_
                refine jr_zret rfl (by decide) dX6_readPiece_61 ?_
                obtain ⟨q1, q2, q3⟩ := aS hT2 (by omega) hPP.2.2.1 h_57
                have h57 := h_57
                rw [show (-33 : Int32) = encF 2 33 from (enc_2 33).symm] at h57
                exact hQ _ _ ⟨by rw [e1]; exact jb_t' rfl, by rw [e1]; exact q1, by rw [e1]; exact fun _ => aS_P hPP2 (show r.2.2.2.2.1 < 96 by omega) h57, q2, hS2.tr q3⟩
              · have e1 : psPt T n a0 (nI key) (f + 1) p = (false, r.2) := by
                  simp only [psPt]
                  rw [if_neg c1, if_neg c2, if_pos c3, ← er, if_neg h1]
                rw [jb_f h1] at ex
                subst ex
                obtain ⟨c, hc, h8⟩ := hc2
                have hAS := c_addStep g w2 hw2 c hc h8 (-33)
                refine jr_istore_3 dX6_readPiece_53 (by decide) rfl ?_
                refine jr_aload_n dX6_readPiece_54 rfl ?_
                refine jr_bipush (-33) dX6_readPiece_55 (by decide) ?_
                refine jc_Vv (hAS) lkX6_102 (hw2.k rfl) rfl rfl (by omega) (Nat.le_of_ble_eq_true rfl) dX6_readPiece_57 (fun w_57 h_57 => ?_)
                refine jr_iload_n dX6_readPiece_60 rfl ?_
                refine jr_zret rfl (by decide) dX6_readPiece_61 ?_
                obtain ⟨q1, q2, q3⟩ := aS hT2 hc h8 h_57
                exact hQ _ _ ⟨by rw [e1]; exact jb_f' Bool.false_ne_true, by rw [e1]; exact q1, by rw [e1]; exact fun h => absurd h Bool.false_ne_true, q2, hS2.tr q3⟩
            have hPt : CsP w key a0 (psTn (p.2.2.1 + 1) p) := hP
            refine jr_aload_n dX6_readPiece_26 rfl ?_
            refine jr_bipush (33) dX6_readPiece_27 (by decide) ?_
            refine jc_Vi (hS33) lkX6_85 (hw.k rfl) rfl rfl (by omega) (Nat.le_of_ble_eq_true rfl) dX6_readPiece_29 (fun r_29 w_29 h_29 => ?_)
            obtain ⟨rfl, rfl⟩ := h_29
            refine jr_if_eq 62 dX6_readPiece_32 (by decide) (fun c_32 => absurd c_32 (jb_1.mpr c3.1)) (fun c_32 => ?_)
            refine jr_iload_n dX6_readPiece_35 rfl ?_
            refine jr_bipush (8) dX6_readPiece_36 (by decide) ?_
            refine jr_icmp_ge 62 dX6_readPiece_38 (by decide) (fun c_38 => absurd c_38 (by rw [jlit 8]; exact nI_ge (by omega) (by decide))) (fun c_38 => ?_)
            refine jr_aload_n dX6_readPiece_41 rfl ?_
            refine jc_Vv (hAd hp.1) lkX6_47 (hw.k rfl) rfl rfl (by omega) (Nat.le_of_ble_eq_true rfl) dX6_readPiece_42 (fun w_42 h_42 => ?_)
            obtain ⟨f2, rfl, hT2, ho2⟩ := h_42
            refine jr_aload_n dX6_readPiece_45 rfl ?_
            refine jr_iload_n dX6_readPiece_46 rfl ?_
            refine jr_iload_n dX6_readPiece_47 rfl ?_
            refine jr_iconst (1) dX6_readPiece_48 (by decide) ?_
            refine jr_iadd dX6_readPiece_49 ?_
            rw [jlit 1, nI_add]
            refine jc_Vi (hC _ (hw.sR _ _) hT2 (hPt.nx ho2)) lkX6_123 (hw.k rfl) rfl rfl (by omega) (Nat.le_of_ble_eq_true rfl) dX6_readPiece_50 (fun r_50 w_50 h_50 => ?_)
            obtain ⟨er2, z1, z2, z3, z4⟩ := h_50
            exact K53 _ _ er2 z1 z2 z3 ((Sm.sR (Or.inl rfl)).tr z4)
          · have K62 : RR g RX6 cX6_readPiece 4 (some .boolean) "readPiece" d 0 0 0 0 62 [some (.ref (gb g + 43)), some (.int (nI D)), some (.int (nI U)), none] [] w Q := by
              by_cases c4 : ¬ psSg 40 p ∨ p.2.1 = 8
              · have e1 : psPt T n a0 (nI key) (f + 1) p = (false, p) := by
                  simp only [psPt]
                  rw [if_neg c1, if_neg c2, if_neg c3, if_pos c4]
                have eDi : (nI D).toInt = (D : Int) := i_nI (by omega)
                refine jr_aload_n dX6_readPiece_62 rfl ?_
                refine jr_bipush (40) dX6_readPiece_63 (by decide) ?_
                refine jc_Vi (hS40) lkX6_85 (hw.k rfl) rfl rfl (by omega) (Nat.le_of_ble_eq_true rfl) dX6_readPiece_65 (fun r_65 w_65 h_65 => ?_)
                obtain ⟨rfl, rfl⟩ := h_65
                refine jr_if_eq 109 dX6_readPiece_68 (by decide) (fun c_68 => ?_) (fun c_68 => ?_)
                · rw [jb_0] at c_68
                  refine jr_iconst (0) dX6_readPiece_109 (by decide) ?_
                  refine jr_zret rfl (by decide) dX6_readPiece_110 ?_
                  exact fail e1
                · rw [jb_1] at c_68
                  refine jr_iload_n dX6_readPiece_71 rfl ?_
                  refine jr_bipush (8) dX6_readPiece_72 (by decide) ?_
                  refine jr_icmp_ge 109 dX6_readPiece_74 (by decide) (fun c_74 => ?_) (fun c_74 => ?_)
                  · simp only [lt_i, le_i, eq_i, Int32.reduceToInt] at c_74
                    refine jr_iconst (0) dX6_readPiece_109 (by decide) ?_
                    refine jr_zret rfl (by decide) dX6_readPiece_110 ?_
                    exact fail e1
                  · simp only [lt_i, le_i, eq_i, Int32.reduceToInt] at c_74
                    exfalso
                    rcases c4 with h | h
                    · exact h c_68
                    · omega
              · have c5 : psSg 40 p := Decidable.not_not.mp (fun h => c4 (Or.inl h))
                have c6 : ¬ p.2.1 = 8 := fun h => c4 (Or.inr h)
                have h0 : ¬ p.1.2.2.1 = 0 := by rw [c5.1]; decide
                have w1 : Wk key a0 B 0 0 p (psDp (p.2.1 + 1) p) := Wk_eq rfl rfl rfl
                have w2 : Wk key a0 B 1 0 (psDp (p.2.1 + 1) p) (psNx T n (psDp (p.2.1 + 1) p)) := Wk_nx hp.1 h0
                have w3 : Wk key a0 B 1 0 p (psNx T n (psDp (p.2.1 + 1) p)) := w1.tr w2 (by omega) (by omega)
                have hq : PI T n B (psNx T n (psDp (p.2.1 + 1) p)) := hp.to w3 (by omega) (tokF_I hp.1.1).1 (show p.2.1 + 1 ≤ 8 by omega) hp.2.2.1
                obtain ⟨s1, s2, s3⟩ := Ei_ok hGo _ hq
                have hC := fun w hw hT hP => hE w hw (psNx T n (psDp (p.2.1 + 1) p)) (D + 1) U (by rw [← eD]; rfl) eU hq (by omega) hT hP
                obtain ⟨r, er⟩ : ∃ r, r = psEi T n a0 (psPt T n a0 (nI key) f) (psNx T n (psDp (p.2.1 + 1) p)) := ⟨_, rfl⟩
                rw [← er] at s1 s2 s3 hC
                have K89 : ∀ w2 x, x = jb (r.1 = true) → CsT w2 T n r.2.1 → (r.1 = true → CsP w2 key a0 r.2) → (∃ c, c ≤ 96 ∧ wI w2 43 8 = nI c) → Sm scRd w w2 → RR g RX6 cX6_readPiece 4 (some .boolean) "readPiece" d 0 0 0 0 89 [some (.ref (gb g + 43)), some (.int (nI D)), some (.int (nI U)), none] [.int x] w2 Q := by
                  intro w2 x ex hT2 hP2 hc2 hS2
                  have hw2 := hS2.wf hw
                  have hS41 := c_rSign g w2 hw2 T n hn hTB r.2.1 hT2 s1 41 (by decide)
                  by_cases ha : r.1 = true
                  · rw [jb_t ha] at ex
                    subst ex
                    obtain ⟨v1, d1, t1⟩ := s3 ha
                    have v2 : Wk key a0 B 1 1 p r.2 := w3.tr v1 (by omega) (by omega)
                    by_cases hb : psSg 41 r.2
                    · have e1 : psPt T n a0 (nI key) (f + 1) p = (true, psNx T n (psDp (r.2.2.1 - 1) r.2)) := by
                        simp only [psPt]
                        rw [if_neg c1, if_neg c2, if_neg c3, if_neg c4, ← er, if_pos ⟨ha, hb⟩]
                      have hPP := hP2 ha
                      have hPP2 : CsP w2 key a0 (psDp (r.2.2.1 - 1) r.2) := hPP
                      have hlb2 : r.2.2.2.2.1 ≤ 96 := by
                        have a1 := hp.2.2.2
                        have a2 := v2.2.1
                        have a3 := s1.1
                        have a4 := s1.2.1
                        omega
                      have hAd2 := ad_c (g := g) hw2 hn hTB hT2 s1
                      refine jr_if_eq 101 dX6_readPiece_89 (by decide) (fun c_89 => absurd c_89 (by decide)) (fun c_89 => ?_)
                      refine jr_aload_n dX6_readPiece_92 rfl ?_
                      refine jr_bipush (41) dX6_readPiece_93 (by decide) ?_
                      refine jc_Vi (hS41) lkX6_85 (hw2.k rfl) rfl rfl (by omega) (Nat.le_of_ble_eq_true rfl) dX6_readPiece_95 (fun r_95 w_95 h_95 => ?_)
                      obtain ⟨rfl, rfl⟩ := h_95
                      refine jr_if_ne 103 dX6_readPiece_98 (by decide) (fun c_98 => ?_) (fun c_98 => absurd c_98 (jb_1.mpr hb))
                      refine jr_aload_n dX6_readPiece_103 rfl ?_
                      refine jc_Vv (hAd2) lkX6_47 (hw2.k rfl) rfl rfl (by omega) (Nat.le_of_ble_eq_true rfl) dX6_readPiece_104 (fun w_104 h_104 => ?_)
                      obtain ⟨f2, rfl, hT3, ho2⟩ := h_104
                      refine jr_iconst (1) dX6_readPiece_107 (by decide) ?_
                      refine jr_zret rfl (by decide) dX6_readPiece_108 ?_
                      exact hQ _ _ ⟨by rw [e1]; exact jb_t' rfl, by rw [e1]; exact hT3, by rw [e1]; exact fun _ => hPP2.nx ho2, ⟨_, hlb2, (hPP2.nx (T := T) (n := n) ho2).2.2.1⟩, hS2.tr (Sm.sR (Or.inl rfl))⟩
                    · have e1 : psPt T n a0 (nI key) (f + 1) p = (false, r.2) := by
                        simp only [psPt]
                        rw [if_neg c1, if_neg c2, if_neg c3, if_neg c4, ← er, if_neg (fun h => hb h.2)]
                      refine jr_if_eq 101 dX6_readPiece_89 (by decide) (fun c_89 => absurd c_89 (by decide)) (fun c_89 => ?_)
                      refine jr_aload_n dX6_readPiece_92 rfl ?_
                      refine jr_bipush (41) dX6_readPiece_93 (by decide) ?_
                      refine jc_Vi (hS41) lkX6_85 (hw2.k rfl) rfl rfl (by omega) (Nat.le_of_ble_eq_true rfl) dX6_readPiece_95 (fun r_95 w_95 h_95 => ?_)
                      obtain ⟨rfl, rfl⟩ := h_95
                      refine jr_if_ne 103 dX6_readPiece_98 (by decide) (fun c_98 => absurd (jb_f hb) c_98) (fun c_98 => ?_)
                      refine jr_iconst (0) dX6_readPiece_101 (by decide) ?_
                      refine jr_zret rfl (by decide) dX6_readPiece_102 ?_
                      exact hQ _ _ ⟨by rw [e1]; exact jb_f' Bool.false_ne_true, by rw [e1]; exact hT2, by rw [e1]; exact fun h => absurd h Bool.false_ne_true, hc2, hS2⟩
                  · rw [jb_f ha] at ex
                    subst ex
                    have e1 : psPt T n a0 (nI key) (f + 1) p = (false, r.2) := by
                      simp only [psPt]
                      rw [if_neg c1, if_neg c2, if_neg c3, if_neg c4, ← er, if_neg (fun h => ha h.1)]
                    refine jr_if_eq 101 dX6_readPiece_89 (by decide) (fun c_89 => ?_) (fun c_89 => absurd (by decide) c_89)
                    refine jr_iconst (0) dX6_readPiece_101 (by decide) ?_
                    refine jr_zret rfl (by decide) dX6_readPiece_102 ?_
                    exact hQ _ _ ⟨by rw [e1]; exact jb_f' Bool.false_ne_true, by rw [e1]; exact hT2, by rw [e1]; exact fun h => absurd h Bool.false_ne_true, hc2, hS2⟩
                have hPd : CsP w key a0 (psDp (p.2.1 + 1) p) := hP
                refine jr_aload_n dX6_readPiece_62 rfl ?_
                refine jr_bipush (40) dX6_readPiece_63 (by decide) ?_
                refine jc_Vi (hS40) lkX6_85 (hw.k rfl) rfl rfl (by omega) (Nat.le_of_ble_eq_true rfl) dX6_readPiece_65 (fun r_65 w_65 h_65 => ?_)
                obtain ⟨rfl, rfl⟩ := h_65
                refine jr_if_eq 109 dX6_readPiece_68 (by decide) (fun c_68 => absurd c_68 (jb_1.mpr c5)) (fun c_68 => ?_)
                refine jr_iload_n dX6_readPiece_71 rfl ?_
                refine jr_bipush (8) dX6_readPiece_72 (by decide) ?_
                refine jr_icmp_ge 109 dX6_readPiece_74 (by decide) (fun c_74 => absurd c_74 (by rw [jlit 8]; exact nI_ge (by omega) (by decide))) (fun c_74 => ?_)
                refine jr_aload_n dX6_readPiece_77 rfl ?_
                refine jc_Vv (hAd hp.1) lkX6_47 (hw.k rfl) rfl rfl (by omega) (Nat.le_of_ble_eq_true rfl) dX6_readPiece_78 (fun w_78 h_78 => ?_)
                obtain ⟨f2, rfl, hT2, ho2⟩ := h_78
                refine jr_aload_n dX6_readPiece_81 rfl ?_
                refine jr_iload_n dX6_readPiece_82 rfl ?_
                refine jr_iconst (1) dX6_readPiece_83 (by decide) ?_
                refine jr_iadd dX6_readPiece_84 ?_
                rw [jlit 1, nI_add]
                refine jr_iload_n dX6_readPiece_85 rfl ?_
                refine jc_Vi (hC _ (hw.sR _ _) hT2 (hPd.nx ho2)) lkX6_54 (hw.k rfl) rfl rfl (by omega) (Nat.le_of_ble_eq_true rfl) dX6_readPiece_86 (fun r_86 w_86 h_86 => ?_)
                obtain ⟨er2, z1, z2, z3, z4⟩ := h_86
                exact K89 _ _ er2 z1 z2 z3 ((Sm.sR (Or.inl rfl)).tr z4)
            have eUi : (nI U).toInt = (U : Int) := i_nI (by omega)
            refine jr_aload_n dX6_readPiece_26 rfl ?_
            refine jr_bipush (33) dX6_readPiece_27 (by decide) ?_
            refine jc_Vi (hS33) lkX6_85 (hw.k rfl) rfl rfl (by omega) (Nat.le_of_ble_eq_true rfl) dX6_readPiece_29 (fun r_29 w_29 h_29 => ?_)
            obtain ⟨rfl, rfl⟩ := h_29
            refine jr_if_eq 62 dX6_readPiece_32 (by decide) (fun c_32 => ?_) (fun c_32 => ?_)
            · rw [jb_0] at c_32
              exact K62
            · rw [jb_1] at c_32
              refine jr_iload_n dX6_readPiece_35 rfl ?_
              refine jr_bipush (8) dX6_readPiece_36 (by decide) ?_
              refine jr_icmp_ge 62 dX6_readPiece_38 (by decide) (fun c_38 => ?_) (fun c_38 => ?_)
              · simp only [lt_i, le_i, eq_i, Int32.reduceToInt] at c_38
                exact K62
              · simp only [lt_i, le_i, eq_i, Int32.reduceToInt] at c_38
                exfalso; exact c3 ⟨c_32, by omega⟩
        refine jr_aload_n dX6_readPiece_0 rfl ?_
        refine gfX6_19 dX6_readPiece_1 (hw.k rfl) ?_
        rw [t2]
        refine jr_iconst (1) dX6_readPiece_4 (by decide) ?_
        refine jr_icmp_ne 13 dX6_readPiece_5 (by decide) (fun c_5 => ?_) (fun c_5 => absurd c_5 (fun h => c1 (kmC_1.mp h)))
        refine jr_aload_n dX6_readPiece_13 rfl ?_
        refine gfX6_19 dX6_readPiece_14 (hw.k rfl) ?_
        rw [t2]
        refine jr_iconst (2) dX6_readPiece_17 (by decide) ?_
        refine jr_icmp_ne 26 dX6_readPiece_18 (by decide) (fun c_18 => ?_) (fun c_18 => absurd c_18 (fun h => c0 (kmC_2.mp h)))
        exact K26
theorem c_readOrW (g : Cx) {T : Nat → Int32} {n B a0 key : Nat} (hn : n ≤ 96) (hTB : TpB T n) (hB : B ≤ 93) (hk : key ≤ 2) : RcC g yX6_readOr cX6_readOr 5 T n B a0 key 17 140 (psEi T n a0 (psPt T n a0 (nI key) 17)) := by
  have hGo := Pt_ok (T := T) (n := n) (a0 := a0) (B := B) hk 17
  exact c_readOr g hn hTB hB (by omega) (Bi_ok opAn_s (Te_ok opCm_s (Bi_ok opSu_s (Bi_ok opTe_s hGo)))) (c_readAnd g hn hTB hB (by omega) (Te_ok opCm_s (Bi_ok opSu_s (Bi_ok opTe_s hGo))) (c_readTest g hn hTB hB (by omega) (Bi_ok opSu_s (Bi_ok opTe_s hGo)) (c_readSum g hn hTB hB (by omega) (Bi_ok opTe_s hGo) (c_readTerm g hn hTB hB (by omega) hGo (c_readPiece g hn hTB hB hk 17 135 (by omega))))))
