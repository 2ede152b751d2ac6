-- the class: whether the hour is sure
abbrev uS (x : Int32) (k : Int32) : Int32 := (x.toUInt32 >>> (k.toUInt32 &&& Int32.toUInt32 31)).toInt32
def bcA (x : Int32) : Int32 := x - (uS x 1 &&& 1431655765)
def bcB (x : Int32) : Int32 := (x &&& 858993459) + (uS x 2 &&& 858993459)
def bcC (x : Int32) : Int32 := (x + uS x 4) &&& 252645135
def bcD (x : Int32) : Int32 := x + uS x 8
def bcE (x : Int32) : Int32 := x + uS x 16
def bcX (x : Int32) : Int32 := bcE (bcD (bcC (bcB (bcA x)))) &&& 63
theorem c_bitCount (g : Cx) (w : Wd) (x : Int32) : CI g yJ6_bitCount_0f7a4 cJ6_bitCount_0f7a4 1 (some .int) 1 0 0 [.int x] w (fun r w' => r = bcX x ∧ w = w') := by
  refine CI.of (own := RJ6) (nm := "bitCount") (lv := [some (.int x)]) (by decide) rfl rfl (Nat.le_of_ble_eq_true rfl) rfl (fun Q hQ => ?_)
  refine jr_iload_n dJ6_bitCount_0f7a4_0 rfl ?_
  refine jr_iload_n dJ6_bitCount_0f7a4_1 rfl ?_
  refine jr_iconst (1) dJ6_bitCount_0f7a4_2 (by decide) ?_
  refine jr_iushr dJ6_bitCount_0f7a4_3 ?_
  refine jr_ldcw (1431655765) ckJ6_265 dJ6_bitCount_0f7a4_4 ?_
  refine jr_iand dJ6_bitCount_0f7a4_7 ?_
  refine jr_isub dJ6_bitCount_0f7a4_8 ?_
  refine jr_istore_0 dJ6_bitCount_0f7a4_9 (by decide) ?_
  refine jr_iload_n dJ6_bitCount_0f7a4_10 rfl ?_
  refine jr_ldcw (858993459) ckJ6_266 dJ6_bitCount_0f7a4_11 ?_
  refine jr_iand dJ6_bitCount_0f7a4_14 ?_
  refine jr_iload_n dJ6_bitCount_0f7a4_15 rfl ?_
  refine jr_iconst (2) dJ6_bitCount_0f7a4_16 (by decide) ?_
  refine jr_iushr dJ6_bitCount_0f7a4_17 ?_
  refine jr_ldcw (858993459) ckJ6_266 dJ6_bitCount_0f7a4_18 ?_
  refine jr_iand dJ6_bitCount_0f7a4_21 ?_
  refine jr_iadd dJ6_bitCount_0f7a4_22 ?_
  refine jr_istore_0 dJ6_bitCount_0f7a4_23 (by decide) ?_
  refine jr_iload_n dJ6_bitCount_0f7a4_24 rfl ?_
  refine jr_iload_n dJ6_bitCount_0f7a4_25 rfl ?_
  refine jr_iconst (4) dJ6_bitCount_0f7a4_26 (by decide) ?_
  refine jr_iushr dJ6_bitCount_0f7a4_27 ?_
  refine jr_iadd dJ6_bitCount_0f7a4_28 ?_
  refine jr_ldcw (252645135) ckJ6_267 dJ6_bitCount_0f7a4_29 ?_
  refine jr_iand dJ6_bitCount_0f7a4_32 ?_
  refine jr_istore_0 dJ6_bitCount_0f7a4_33 (by decide) ?_
  refine jr_iload_n dJ6_bitCount_0f7a4_34 rfl ?_
  refine jr_iload_n dJ6_bitCount_0f7a4_35 rfl ?_
  refine jr_bipush (8) dJ6_bitCount_0f7a4_36 (by decide) ?_
  refine jr_iushr dJ6_bitCount_0f7a4_38 ?_
  refine jr_iadd dJ6_bitCount_0f7a4_39 ?_
  refine jr_istore_0 dJ6_bitCount_0f7a4_40 (by decide) ?_
  refine jr_iload_n dJ6_bitCount_0f7a4_41 rfl ?_
  refine jr_iload_n dJ6_bitCount_0f7a4_42 rfl ?_
  refine jr_bipush (16) dJ6_bitCount_0f7a4_43 (by decide) ?_
  refine jr_iushr dJ6_bitCount_0f7a4_45 ?_
  refine jr_iadd dJ6_bitCount_0f7a4_46 ?_
  refine jr_istore_0 dJ6_bitCount_0f7a4_47 (by decide) ?_
  refine jr_iload_n dJ6_bitCount_0f7a4_48 rfl ?_
  refine jr_bipush (63) dJ6_bitCount_0f7a4_49 (by decide) ?_
  refine jr_iand dJ6_bitCount_0f7a4_51 ?_
  refine jr_iret rfl dJ6_bitCount_0f7a4_52 ?_
  exact hQ _ _ ⟨rfl, rfl⟩
theorem bc_sure0 : ∀ a, a < 64 → ∀ b, b < 64 → ((bcX (nI (64 * a + b)) = 1) ↔ sureX (nI (64 * a + b))) := by decide +kernel
theorem bc_sure (m : Nat) (h : m < 4096) : (bcX (nI m) = 1) ↔ sureX (nI m) := by
  have := bc_sure0 (m / 64) (by omega) (m % 64) (by omega)
  rw [show 64 * (m / 64) + m % 64 = m by omega] at this
  exact this
theorem nx_or (a b : Nat) : nI a ||| nI b = nI (a ||| b) := by
  apply Int32.toBitVec_inj.1
  show BitVec.ofNat 32 a ||| BitVec.ofNat 32 b = BitVec.ofNat 32 (a ||| b)
  apply BitVec.eq_of_getLsbD_eq
  intro i hi
  simp [hi]
theorem sh12 : ∀ k, k < 12 → (1 : Int32) <<< (nI k &&& 31) = nI (2 ^ k) := by decide +kernel
theorem hrs_n (p : Nat → Bool) : ∀ n, n ≤ 720 → ∃ m, m < 2 ^ 12 ∧ hrsB p n = nI m
  | 0, _ => ⟨0, by decide, rfl⟩
  | n + 1, h => by
    obtain ⟨m, hm, e⟩ := hrs_n p n (by omega)
    simp only [hrsB]
    by_cases c : p n = true
    · rw [if_pos c, e, sh12 _ (by omega), nx_or]
      exact ⟨_, Nat.or_lt_two_pow hm (Nat.pow_lt_pow_right (by decide) (by omega)), rfl⟩
    · rw [if_neg c, e, Int32.or_zero]
      exact ⟨m, hm, rfl⟩
theorem c_isSure (g : Cx) (w : Wd) (hw : Wf w) (p : Nat → Bool) (h4 : wI w 34 4 = hrsB p 720) : CI g yX1_isSure cX1_isSure 1 (some .boolean) 2 0 0 [.ref (gb g + 34)] w (fun r w' => r = jb (sureX (hrsB p 720)) ∧ w = w') := by
  obtain ⟨m, hm, e⟩ := hrs_n p 720 (by omega)
  have hs := bc_sure m hm
  rw [e] at h4 ⊢
  refine CI.of (own := RX1) (nm := "isSure") (lv := [some (.ref (gb g + 34))]) (by decide) rfl rfl (Nat.le_of_ble_eq_true rfl) rfl (fun Q hQ => ?_)
  refine jr_aload_n dX1_isSure_0 rfl ?_
  refine gfX1_25 dX1_isSure_1 (hw.k rfl) ?_
  rw [h4]
  refine jc_Si (c_bitCount g _ _) lkX1_92 rfl rfl (Nat.le_of_ble_eq_true rfl) (Nat.le_of_ble_eq_true rfl) dX1_isSure_4 (fun r_4 w_4 h_4 => ?_)
  obtain ⟨rfl, rfl⟩ := h_4
  refine jr_iconst (1) dX1_isSure_7 (by decide) ?_
  refine jr_icmp_ne 15 dX1_isSure_8 (by decide) (fun c_8 => ?_) (fun c_8 => ?_)
  · refine jr_iconst (0) dX1_isSure_15 (by decide) ?_
    refine jr_zret rfl (by decide) dX1_isSure_16 ?_
    first | exact hQ _ _ ⟨jb_t' (hs.mp c_8), rfl⟩ | exact hQ _ _ ⟨jb_f' (fun h => c_8 (hs.mpr h)), rfl⟩
  · refine jr_iconst (1) dX1_isSure_11 (by decide) ?_
    refine jr_goto 16 dX1_isSure_12 (by decide) ?_
    refine jr_zret rfl (by decide) dX1_isSure_16 ?_
    first | exact hQ _ _ ⟨jb_t' (hs.mp c_8), rfl⟩ | exact hQ _ _ ⟨jb_f' (fun h => c_8 (hs.mpr h)), rfl⟩
