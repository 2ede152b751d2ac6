-- the JDK's strings, as far as the reader of texts asks them
section
variable {g : Cx} {own : String} {cc : ByteArray} {nL : Nat} {ret : Option FieldType} {nm : String} {d kc ks rk rn pc : Nat} {lv : List (Option Value)} {st : List Value} {w : Wd} {Q : Option Value → Wd → Prop}
variable {y : MethodName} {cy : ByteArray} {ny : Nat} {ry : Option FieldType} {d' idx i np : Nat} {As st0 : List Value}
theorem jc_Xi {P : Int32 → Wd → Prop} (hC : CI g y cy ny ry d' 0 0 (.ref (gx g (1 + i)) :: As) w P) (hi : i < 9) (hlk : Cond.methodLink own idx y ∈ kw ∧ Cond.instanceMethod y ∈ kw ∧ Cond.selects y.cls y y ∈ kw ∧ Cond.initialized y.cls ∈ kw ∧ Cond.code y cy ny ry ∈ kw ∧ y.cls = "java/lang/String" ∧ (y.cls ≠ "java/lang/invoke/MethodHandle" ∧ y.cls ≠ "java/lang/invoke/VarHandle" ∧ (parseMethodDescriptor y.desc).map (fun d => d.parameters.length) = some np) ∧ ny ≤ 21) (hst : st0 = As.reverse ++ .ref (gx g (1 + i)) :: st) (hn : As.length = np) (hdp : d' + 1 ≤ d) (hrm : (st.map fun v => v.category).sum ≤ 8)
    (hd : decode cc pc = .ok (.invokevirtual idx, 3)) (K : ∀ r w', P r w' → RR g own cc nL ret nm d kc ks rk rn (pc + 3) lv (.int r :: st) w' Q) : RR g own cc nL ret nm d kc ks rk rn pc lv st0 w Q :=
  jr_callVX hC hi hlk hst hn hdp hrm ⟨Nat.zero_le _, Nat.zero_le _⟩ hd (fun v w' h => by obtain ⟨r, rfl, h⟩ := h; exact K r w' h)
end
theorem CV.ofF {g : Cx} {own : String} {cc : ByteArray} {nL : Nat} {nm : String} {d kc ks : Nat} {lv : List (Option Value)} {w : Wd} {y : MethodName} {av : List Value} {P : Wd → Prop} (hy : plainFor y = true) (ho : y.cls = own) (hnm : y.name = nm) (hln : (lg_sl av).length ≤ nL) (hlv : lv_args 0 av = jasc 0 lv) (K : ∀ Q : Option Value → Wd → Prop, (∀ w', P w' → Q none w') → RR g own cc nL none nm d kc ks kc ks 0 lv [] w Q) : CV g y cc nL d kc ks av w P := by
  have K1 := K (fun v w' => v = none ∧ P w') (fun _ h => ⟨rfl, h⟩)
  refine ofWF (cc := cc) (maxL := nL) (ret := none) hy rfl ?_
  intro p e s m args below meth c s₁ B hml hv
  obtain ⟨rfl, hG, hz, hP⟩ := hv
  have hts := atoms_spec (ws := Cond.code y cc nL none :: kw) B.pre
  have hown : s.vm.findClass own = some m.cls := by rw [← ho]; exact findClass_of_methodNamed B.named
  have hin : meth.name = nm := (name_of_methodNamed B.named B.method).1.trans hnm
  have hl := lv_entry av (n := nL) hln
  rw [lg_entry_eq]
  rw [hlv] at hl
  exact K1 p e s m _ below meth c s.heap [] 0 0 _ ⟨⟨B.exec, B.bytes, hml, hown, fun w h => hts w (List.mem_cons_of_mem _ h)⟩, B.returns, B.notSynchronized, hin, hG⟩ ⟨hz, hP, va_S.rf⟩ (by omega) (by omega) hl
def slen (i : Nat) : Nat := jlens.getD i 0
def schr (i j : Nat) : Int32 := (jbyts.getD i []).getD j 0
theorem slen_le : ∀ i, i < 9 → slen i ≤ 5 := by decide
theorem schr_i : ∀ i, i < 9 → ∀ j, j < 5 → (((schr i j) &&& 255).toUInt32 % 65536).toInt32 = schr i j := by decide +kernel
theorem c_coder (g : Cx) (w : Wd) (i : Nat) (hi : i < 9) : CI g yJ0_coder_7d493 cJ0_coder_7d493 1 (some .byte) 1 0 0 [.ref (gx g (1 + i))] w (fun r w' => r = 0 ∧ w = w') := by
  refine CI.ofF (own := RJ0) (nm := "coder") (lv := [some (.ref (gx g (1 + i)))]) (by decide +kernel) rfl rfl (Nat.le_of_ble_eq_true rfl) rfl (fun Q hQ => ?_)
  refine jr_gCompact flJ0_38 dJ0_coder_7d493_0 ?_
  refine jr_if_eq 13 dJ0_coder_7d493_3 (by decide) (fun c_3 => absurd c_3 (by decide)) (fun c_3 => ?_)
  refine jr_aload_n dJ0_coder_7d493_6 rfl ?_
  refine jr_sCoder hi flJ0_15 dJ0_coder_7d493_7 ?_
  refine jr_goto 14 dJ0_coder_7d493_10 (by decide) ?_
  refine jr_zret rfl (by decide) dJ0_coder_7d493_14 ?_
  exact hQ _ _ ⟨rfl, rfl⟩
theorem c_isLatin1 (g : Cx) (w : Wd) (i : Nat) (hi : i < 9) : CI g yJ0_isLatin1_aae02 cJ0_isLatin1_aae02 1 (some .boolean) 1 0 0 [.ref (gx g (1 + i))] w (fun r w' => r = 1 ∧ w = w') := by
  refine CI.ofF (own := RJ0) (nm := "isLatin1") (lv := [some (.ref (gx g (1 + i)))]) (by decide +kernel) rfl rfl (Nat.le_of_ble_eq_true rfl) rfl (fun Q hQ => ?_)
  refine jr_gCompact flJ0_38 dJ0_isLatin1_aae02_0 ?_
  refine jr_if_eq 17 dJ0_isLatin1_aae02_3 (by decide) (fun c_3 => absurd c_3 (by decide)) (fun c_3 => ?_)
  refine jr_aload_n dJ0_isLatin1_aae02_6 rfl ?_
  refine jr_sCoder hi flJ0_15 dJ0_isLatin1_aae02_7 ?_
  refine jr_if_ne 17 dJ0_isLatin1_aae02_10 (by decide) (fun c_10 => absurd (by decide) c_10) (fun c_10 => ?_)
  refine jr_iconst (1) dJ0_isLatin1_aae02_13 (by decide) ?_
  refine jr_goto 18 dJ0_isLatin1_aae02_14 (by decide) ?_
  refine jr_zret rfl (by decide) dJ0_isLatin1_aae02_18 ?_
  exact hQ _ _ ⟨rfl, rfl⟩
theorem c_slen (g : Cx) (w : Wd) (i : Nat) (hi : i < 9) : CI g yJ0_length_8abf5 cJ0_length_8abf5 1 (some .int) 2 0 0 [.ref (gx g (1 + i))] w (fun r w' => r = nI (slen i) ∧ w = w') := by
  have hl := slen_le i hi
  refine CI.ofF (own := RJ0) (nm := "length") (lv := [some (.ref (gx g (1 + i)))]) (by decide +kernel) rfl rfl (Nat.le_of_ble_eq_true rfl) rfl (fun Q hQ => ?_)
  refine jr_aload_n dJ0_length_8abf5_0 rfl ?_
  refine jr_sValue hi flJ0_9 dJ0_length_8abf5_1 ?_
  refine jr_sLen hi dJ0_length_8abf5_4 ?_
  refine jr_aload_n dJ0_length_8abf5_5 rfl ?_
  refine jc_Xi (c_coder g _ i hi) hi lkJ0_335 rfl rfl (Nat.le_of_ble_eq_true rfl) (Nat.le_of_ble_eq_true rfl) dJ0_length_8abf5_6 (fun r_6 w_6 h_6 => ?_)
  obtain ⟨rfl, rfl⟩ := h_6
  refine jr_ishr dJ0_length_8abf5_9 ?_
  refine jr_iret rfl dJ0_length_8abf5_10 ?_
  exact hQ _ _ ⟨by show nI (slen i) >>> ((0 : Int32) &&& 31) = nI (slen i); rw [show ((0 : Int32) &&& 31) = nI 0 from rfl, pk_shrN (by omega) (nI 0) 0 (by decide), Nat.pow_zero, Nat.div_one], rfl⟩
theorem c_ckN (g : Cx) (w : Wd) (k n : Nat) (hk : k < n) (hn : n < 2 ^ 31) : CI g yJ3_checkIndex_8e157 cJ3_checkIndex_8e157 3 (some .int) 1 0 0 [.int (nI k), .int (nI n), .null] w (fun r w' => r = nI k ∧ w = w') := by
  refine CI.of (own := RJ3) (nm := "checkIndex") (lv := [some (.int (nI k)), some (.int (nI n)), some (.null)]) (by decide) rfl rfl (Nat.le_of_ble_eq_true rfl) rfl (fun Q hQ => ?_)
  refine jr_iload_n dJ3_checkIndex_8e157_0 rfl ?_
  refine jr_if_lt 9 dJ3_checkIndex_8e157_1 (by decide) (fun c_1 => absurd c_1 (nI_pos (by omega))) (fun c_1 => ?_)
  refine jr_iload_n dJ3_checkIndex_8e157_4 rfl ?_
  refine jr_iload_n dJ3_checkIndex_8e157_5 rfl ?_
  refine jr_icmp_lt 16 dJ3_checkIndex_8e157_6 (by decide) (fun c_6 => ?_) (fun c_6 => absurd (nI_lt hk hn) c_6)
  refine jr_iload_n dJ3_checkIndex_8e157_16 rfl ?_
  refine jr_iret rfl dJ3_checkIndex_8e157_17 ?_
  exact hQ _ _ ⟨rfl, rfl⟩
theorem c_ckR (g : Cx) (w : Wd) (k n t : Nat) (hk : k < n) (hn : n < 2 ^ 31) : CI g yJ3_checkIndex_8e157 cJ3_checkIndex_8e157 3 (some .int) 1 0 0 [.int (nI k), .int (nI n), .ref t] w (fun r w' => r = nI k ∧ w = w') := by
  refine CI.of (own := RJ3) (nm := "checkIndex") (lv := [some (.int (nI k)), some (.int (nI n)), some (.ref t)]) (by decide) rfl rfl (Nat.le_of_ble_eq_true rfl) rfl (fun Q hQ => ?_)
  refine jr_iload_n dJ3_checkIndex_8e157_0 rfl ?_
  refine jr_if_lt 9 dJ3_checkIndex_8e157_1 (by decide) (fun c_1 => absurd c_1 (nI_pos (by omega))) (fun c_1 => ?_)
  refine jr_iload_n dJ3_checkIndex_8e157_4 rfl ?_
  refine jr_iload_n dJ3_checkIndex_8e157_5 rfl ?_
  refine jr_icmp_lt 16 dJ3_checkIndex_8e157_6 (by decide) (fun c_6 => ?_) (fun c_6 => absurd (nI_lt hk hn) c_6)
  refine jr_iload_n dJ3_checkIndex_8e157_16 rfl ?_
  refine jr_iret rfl dJ3_checkIndex_8e157_17 ?_
  exact hQ _ _ ⟨rfl, rfl⟩
theorem c_ckIx (g : Cx) (w : Wd) (k n : Nat) (hk : k < n) (hn : n < 2 ^ 31) : CV g yJ0_checkIndex_df160 cJ0_checkIndex_df160 2 2 0 0 [.int (nI k), .int (nI n)] w (fun w' => w = w') := by
  refine CV.ofF (own := RJ0) (nm := "checkIndex") (lv := [some (.int (nI k)), some (.int (nI n))]) (by decide +kernel) rfl rfl (Nat.le_of_ble_eq_true rfl) rfl (fun Q hQ => ?_)
  refine jr_iload_n dJ0_checkIndex_df160_0 rfl ?_
  refine jr_iload_n dJ0_checkIndex_df160_1 rfl ?_
  refine jr_gForm flJ0_1053 dJ0_checkIndex_df160_2 ?_ (fun t => ?_)
  · refine jc_Si (c_ckN g w k n hk hn) lkJ0_1059 rfl rfl (Nat.le_of_ble_eq_true rfl) (Nat.le_of_ble_eq_true rfl) dJ0_checkIndex_df160_5 (fun r w1 h => ?_)
    obtain ⟨rfl, rfl⟩ := h
    refine jr_pop dJ0_checkIndex_df160_8 rfl ?_
    refine jr_vret rfl dJ0_checkIndex_df160_9 ?_
    exact hQ _ rfl
  · refine jc_Si (c_ckR g w k n t hk hn) lkJ0_1059 rfl rfl (Nat.le_of_ble_eq_true rfl) (Nat.le_of_ble_eq_true rfl) dJ0_checkIndex_df160_5 (fun r w1 h => ?_)
    obtain ⟨rfl, rfl⟩ := h
    refine jr_pop dJ0_checkIndex_df160_8 rfl ?_
    refine jr_vret rfl dJ0_checkIndex_df160_9 ?_
    exact hQ _ rfl
theorem c_lchar (g : Cx) (w : Wd) (i j : Nat) (hi : i < 9) (hj : j < slen i) : CI g yJ1_charAt_3b067 cJ1_charAt_3b067 2 (some .char) 3 0 0 [.ref (gx g (10 + i)), .int (nI j)] w (fun r w' => r = schr i j ∧ w = w') := by
  have hl := slen_le i hi
  have hs := schr_i i hi j (by omega)
  refine CI.of (own := RJ1) (nm := "charAt") (lv := [some (.ref (gx g (10 + i))), some (.int (nI j))]) (by decide) rfl rfl (Nat.le_of_ble_eq_true rfl) rfl (fun Q hQ => ?_)
  refine jr_iload_n dJ1_charAt_3b067_0 rfl ?_
  refine jr_aload_n dJ1_charAt_3b067_1 rfl ?_
  refine jr_sLen hi dJ1_charAt_3b067_2 ?_
  refine jc_Sv (c_ckIx g _ j (slen i) hj (by omega)) lkJ1_9 rfl rfl (Nat.le_of_ble_eq_true rfl) (Nat.le_of_ble_eq_true rfl) dJ1_charAt_3b067_3 (fun w_3 h_3 => ?_)
  obtain rfl := h_3
  refine jr_aload_n dJ1_charAt_3b067_6 rfl ?_
  refine jr_iload_n dJ1_charAt_3b067_7 rfl ?_
  refine jr_sByte j hi rfl ⟨hj, by show slen i < _; omega⟩ dJ1_charAt_3b067_8 ?_
  refine jr_sipush (255) dJ1_charAt_3b067_9 (by decide) ?_
  refine jr_iand dJ1_charAt_3b067_12 ?_
  refine jr_i2c dJ1_charAt_3b067_13 ?_
  refine jr_zret rfl (pk_nc _) dJ1_charAt_3b067_14 ?_
  exact hQ _ _ ⟨hs, rfl⟩
theorem c_schar (g : Cx) (w : Wd) (i j : Nat) (hi : i < 9) (hj : j < slen i) : CI g yJ0_charAt_5068e cJ0_charAt_5068e 2 (some .char) 5 0 0 [.ref (gx g (1 + i)), .int (nI j)] w (fun r w' => r = schr i j ∧ w = w') := by
  have hl := slen_le i hi
  have hs := schr_i i hi j (by omega)
  refine CI.ofF (own := RJ0) (nm := "charAt") (lv := [some (.ref (gx g (1 + i))), some (.int (nI j))]) (by decide +kernel) rfl rfl (Nat.le_of_ble_eq_true rfl) rfl (fun Q hQ => ?_)
  refine jr_aload_n dJ0_charAt_5068e_0 rfl ?_
  refine jc_Xi (c_isLatin1 g _ i hi) hi lkJ0_492 rfl rfl (Nat.le_of_ble_eq_true rfl) (Nat.le_of_ble_eq_true rfl) dJ0_charAt_5068e_1 (fun r_1 w_1 h_1 => ?_)
  obtain ⟨rfl, rfl⟩ := h_1
  refine jr_if_eq 16 dJ0_charAt_5068e_4 (by decide) (fun c_4 => absurd c_4 (by decide)) (fun c_4 => ?_)
  refine jr_aload_n dJ0_charAt_5068e_7 rfl ?_
  refine jr_sValue hi flJ0_9 dJ0_charAt_5068e_8 ?_
  refine jr_iload_n dJ0_charAt_5068e_11 rfl ?_
  refine jc_Si (c_lchar g _ i j hi hj) lkJ0_495 rfl rfl (Nat.le_of_ble_eq_true rfl) (Nat.le_of_ble_eq_true rfl) dJ0_charAt_5068e_12 (fun r_12 w_12 h_12 => ?_)
  obtain ⟨rfl, rfl⟩ := h_12
  refine jr_zret rfl (by rw [← hs]; exact pk_nc _) dJ0_charAt_5068e_15 ?_
  exact hQ _ _ ⟨rfl, rfl⟩
theorem c_canEnc (g : Cx) (w : Wd) (x : Int32) : CI g yJ1_canEncode_9a6ad cJ1_canEncode_9a6ad 1 (some .boolean) 1 0 0 [.int x] w (fun r w' => r = jb (0 ≤ x.toInt ∧ x.toInt ≤ 255) ∧ w = w') := by
  refine CI.of (own := RJ1) (nm := "canEncode") (lv := [some (.int x)]) (by decide) rfl rfl (Nat.le_of_ble_eq_true rfl) rfl (fun Q hQ => ?_)
  refine jr_iload_n dJ1_canEncode_9a6ad_0 rfl ?_
  refine jr_if_lt 15 dJ1_canEncode_9a6ad_1 (by decide) (fun c_1 => ?_) (fun c_1 => ?_)
  · simp only [lt_i, le_i, eq_i, Int32.reduceToInt] at c_1
    refine jr_iconst (0) dJ1_canEncode_9a6ad_15 (by decide) ?_
    refine jr_zret rfl (by decide) dJ1_canEncode_9a6ad_16 ?_
    first | exact hQ _ _ ⟨jb_f' (by omega), rfl⟩ | exact hQ _ _ ⟨jb_t' (by omega), rfl⟩
  · simp only [lt_i, le_i, eq_i, Int32.reduceToInt] at c_1
    refine jr_iload_n dJ1_canEncode_9a6ad_4 rfl ?_
    refine jr_sipush (255) dJ1_canEncode_9a6ad_5 (by decide) ?_
    refine jr_icmp_gt 15 dJ1_canEncode_9a6ad_8 (by decide) (fun c_8 => ?_) (fun c_8 => ?_)
    · simp only [lt_i, le_i, eq_i, Int32.reduceToInt] at c_8
      refine jr_iconst (0) dJ1_canEncode_9a6ad_15 (by decide) ?_
      refine jr_zret rfl (by decide) dJ1_canEncode_9a6ad_16 ?_
      first | exact hQ _ _ ⟨jb_f' (by omega), rfl⟩ | exact hQ _ _ ⟨jb_t' (by omega), rfl⟩
    · simp only [lt_i, le_i, eq_i, Int32.reduceToInt] at c_8
      refine jr_iconst (1) dJ1_canEncode_9a6ad_11 (by decide) ?_
      refine jr_goto 16 dJ1_canEncode_9a6ad_12 (by decide) ?_
      refine jr_zret rfl (by decide) dJ1_canEncode_9a6ad_16 ?_
      first | exact hQ _ _ ⟨jb_f' (by omega), rfl⟩ | exact hQ _ _ ⟨jb_t' (by omega), rfl⟩
/-- the first place of a sign in a string from j on; -1 -/
def sIx (i : Nat) (x : Int32) : Nat → Nat → Int32
  | 0, _ => -1
  | f + 1, j => if schr i j = x then nI j else sIx i x f (j + 1)
theorem c_ixChar (g : Cx) (w : Wd) (i : Nat) (hi : i < 9) (x : Int32) (hx : x.toInt8.toInt32 = x) : CI g yJ1_indexOfChar_4cfef cJ1_indexOfChar_4cfef 6 (some .int) 1 0 0 [.ref (gx g (10 + i)), .int x, .int (nI 0), .int (nI (slen i))] w (fun r w' => r = sIx i x (slen i) 0 ∧ w = w') := by
  have hl := slen_le i hi
  refine CI.of (own := RJ1) (nm := "indexOfChar") (lv := [some (.ref (gx g (10 + i))), some (.int x), some (.int (nI 0)), some (.int (nI (slen i))), none, none]) (by decide) rfl rfl (Nat.le_of_ble_eq_true rfl) rfl (fun Q hQ => ?_)
  have L : ∀ f j, f + j = slen i → sIx i x (slen i) 0 = sIx i x f j → RR g RJ1 cJ1_indexOfChar_4cfef 6 (some .int) "indexOfChar" 1 0 0 0 0 7 [some (.ref (gx g (10 + i))), some (.int x), some (.int (nI 0)), some (.int (nI (slen i))), some (.int x), some (.int (nI j))] [] w Q := by
    intro f
    induction f with
    | zero =>
      intro j hj he
      have e : j = slen i := by omega
      subst e
      refine jr_iload dJ1_indexOfChar_4cfef_7 rfl ?_
      refine jr_iload_n dJ1_indexOfChar_4cfef_9 rfl ?_
      refine jr_icmp_ge 31 dJ1_indexOfChar_4cfef_10 (by decide) (fun c_10 => ?_) (fun c_10 => absurd (Int32.le_refl _) c_10)
      refine jr_iconst (-1) dJ1_indexOfChar_4cfef_31 (by decide) ?_
      refine jr_iret rfl dJ1_indexOfChar_4cfef_32 ?_
      exact hQ _ _ ⟨he.symm, rfl⟩
    | succ f ih =>
      intro j hj he
      simp only [sIx] at he
      by_cases hc : schr i j = x
      · rw [if_pos hc] at he
        refine jr_iload dJ1_indexOfChar_4cfef_7 rfl ?_
        refine jr_iload_n dJ1_indexOfChar_4cfef_9 rfl ?_
        refine jr_icmp_ge 31 dJ1_indexOfChar_4cfef_10 (by decide) (fun c_10 => absurd c_10 (nI_ge (by omega) (by omega))) (fun c_10 => ?_)
        refine jr_aload_n dJ1_indexOfChar_4cfef_13 rfl ?_
        refine jr_iload dJ1_indexOfChar_4cfef_14 rfl ?_
        refine jr_sByte j hi rfl ⟨by show j < slen i; omega, by show slen i < _; omega⟩ dJ1_indexOfChar_4cfef_16 ?_
        refine jr_iload dJ1_indexOfChar_4cfef_17 rfl ?_
        refine jr_icmp_ne 25 dJ1_indexOfChar_4cfef_19 (by decide) (fun c_19 => absurd hc c_19) (fun c_19 => ?_)
        refine jr_iload dJ1_indexOfChar_4cfef_22 rfl ?_
        refine jr_iret rfl dJ1_indexOfChar_4cfef_24 ?_
        exact hQ _ _ ⟨he.symm, rfl⟩
      · rw [if_neg hc] at he
        have h9 := ih (j + 1) (by omega) he
        refine jr_iload dJ1_indexOfChar_4cfef_7 rfl ?_
        refine jr_iload_n dJ1_indexOfChar_4cfef_9 rfl ?_
        refine jr_icmp_ge 31 dJ1_indexOfChar_4cfef_10 (by decide) (fun c_10 => absurd c_10 (nI_ge (by omega) (by omega))) (fun c_10 => ?_)
        refine jr_aload_n dJ1_indexOfChar_4cfef_13 rfl ?_
        refine jr_iload dJ1_indexOfChar_4cfef_14 rfl ?_
        refine jr_sByte j hi rfl ⟨by show j < slen i; omega, by show slen i < _; omega⟩ dJ1_indexOfChar_4cfef_16 ?_
        refine jr_iload dJ1_indexOfChar_4cfef_17 rfl ?_
        refine jr_icmp_ne 25 dJ1_indexOfChar_4cfef_19 (by decide) (fun c_19 => ?_) (fun c_19 => absurd c_19 hc)
        refine jr_iinc_5 (nI (j + 1)) dJ1_indexOfChar_4cfef_25 (inc1 j) (by decide) rfl ?_
        refine jr_goto 7 dJ1_indexOfChar_4cfef_28 (by decide) ?_
        exact h9
  refine jr_iload_n dJ1_indexOfChar_4cfef_0 rfl ?_
  refine jr_i2b dJ1_indexOfChar_4cfef_1 ?_
  rw [hx]
  refine jr_istore_4 dJ1_indexOfChar_4cfef_2 (by decide) rfl ?_
  refine jr_iload_n dJ1_indexOfChar_4cfef_4 rfl ?_
  refine jr_istore_5 dJ1_indexOfChar_4cfef_5 (by decide) rfl ?_
  exact L _ 0 rfl rfl
theorem c_lix (g : Cx) (w : Wd) (i : Nat) (hi : i < 9) (hl0 : 0 < slen i) (x : Int32) (hx : x.toInt8.toInt32 = x) (hx0 : 0 ≤ x.toInt ∧ x.toInt ≤ 255) : CI g yJ1_indexOf_4cfef cJ1_indexOf_4cfef 4 (some .int) 2 0 0 [.ref (gx g (10 + i)), .int x, .int (nI 0), .int (nI (slen i))] w (fun r w' => r = sIx i x (slen i) 0 ∧ w = w') := by
  have hl := slen_le i hi
  have e1 : (if (nI 0).toInt < (0 : Int32).toInt then (0 : Int32) else nI 0) = nI 0 := rfl
  have e2 : (if (nI (slen i)).toInt < (nI (slen i)).toInt then nI (slen i) else nI (slen i)) = nI (slen i) := by rw [if_neg (by omega)]
  refine CI.of (own := RJ1) (nm := "indexOf") (lv := [some (.ref (gx g (10 + i))), some (.int x), some (.int (nI 0)), some (.int (nI (slen i)))]) (by decide) rfl rfl (Nat.le_of_ble_eq_true rfl) rfl (fun Q hQ => ?_)
  refine jr_iload_n dJ1_indexOf_4cfef_0 rfl ?_
  refine jc_Si (c_canEnc g _ _) lkJ1_88 rfl rfl (Nat.le_of_ble_eq_true rfl) (Nat.le_of_ble_eq_true rfl) dJ1_indexOf_4cfef_1 (fun r_1 w_1 h_1 => ?_)
  obtain ⟨rfl, rfl⟩ := h_1
  refine jr_if_ne 9 dJ1_indexOf_4cfef_4 (by decide) (fun c_4 => ?_) (fun c_4 => absurd c_4 (jb_1.mpr hx0))
  refine jr_iload_n dJ1_indexOf_4cfef_9 rfl ?_
  refine jr_iconst (0) dJ1_indexOf_4cfef_10 (by decide) ?_
  refine jc_Si (c_max g _ _ _) lkJ1_92 rfl rfl (Nat.le_of_ble_eq_true rfl) (Nat.le_of_ble_eq_true rfl) dJ1_indexOf_4cfef_11 (fun r_11 w_11 h_11 => ?_)
  obtain ⟨rfl, rfl⟩ := h_11
  rw [e1]
  refine jr_istore_2 dJ1_indexOf_4cfef_14 (by decide) rfl ?_
  refine jr_iload_n dJ1_indexOf_4cfef_15 rfl ?_
  refine jr_aload_n dJ1_indexOf_4cfef_16 rfl ?_
  refine jr_sLen hi dJ1_indexOf_4cfef_17 ?_
  refine jc_Si (c_min g _ (nI (slen i)) (nI (slen i))) lkJ1_38 rfl rfl (Nat.le_of_ble_eq_true rfl) (Nat.le_of_ble_eq_true rfl) dJ1_indexOf_4cfef_18 (fun r_18 w_18 h_18 => ?_)
  obtain ⟨rfl, rfl⟩ := h_18
  rw [e2]
  refine jr_istore_3 dJ1_indexOf_4cfef_21 (by decide) rfl ?_
  refine jr_iload_n dJ1_indexOf_4cfef_22 rfl ?_
  refine jr_iload_n dJ1_indexOf_4cfef_23 rfl ?_
  refine jr_icmp_lt 29 dJ1_indexOf_4cfef_24 (by decide) (fun c_24 => ?_) (fun c_24 => absurd (nI_lt hl0 (by omega)) c_24)
  refine jr_aload_n dJ1_indexOf_4cfef_29 rfl ?_
  refine jr_iload_n dJ1_indexOf_4cfef_30 rfl ?_
  refine jr_iload_n dJ1_indexOf_4cfef_31 rfl ?_
  refine jr_iload_n dJ1_indexOf_4cfef_32 rfl ?_
  refine jc_Si (c_ixChar g _ i hi x hx) lkJ1_95 rfl rfl (Nat.le_of_ble_eq_true rfl) (Nat.le_of_ble_eq_true rfl) dJ1_indexOf_4cfef_33 (fun r_33 w_33 h_33 => ?_)
  obtain ⟨rfl, rfl⟩ := h_33
  refine jr_iret rfl dJ1_indexOf_4cfef_36 ?_
  exact hQ _ _ ⟨rfl, rfl⟩
theorem c_six2 (g : Cx) (w : Wd) (i : Nat) (hi : i < 9) (hl0 : 0 < slen i) (x : Int32) (hx : x.toInt8.toInt32 = x) (hx0 : 0 ≤ x.toInt ∧ x.toInt ≤ 255) : CI g yJ0_indexOf_7cf53 cJ0_indexOf_7cf53 3 (some .int) 6 0 0 [.ref (gx g (1 + i)), .int x, .int (nI 0)] w (fun r w' => r = sIx i x (slen i) 0 ∧ w = w') := by
  refine CI.ofF (own := RJ0) (nm := "indexOf") (lv := [some (.ref (gx g (1 + i))), some (.int x), some (.int (nI 0))]) (by decide +kernel) rfl rfl (Nat.le_of_ble_eq_true rfl) rfl (fun Q hQ => ?_)
  refine jr_aload_n dJ0_indexOf_7cf53_0 rfl ?_
  refine jc_Xi (c_isLatin1 g _ i hi) hi lkJ0_492 rfl rfl (Nat.le_of_ble_eq_true rfl) (Nat.le_of_ble_eq_true rfl) dJ0_indexOf_7cf53_1 (fun r_1 w_1 h_1 => ?_)
  obtain ⟨rfl, rfl⟩ := h_1
  refine jr_if_eq 23 dJ0_indexOf_7cf53_4 (by decide) (fun c_4 => absurd c_4 (by decide)) (fun c_4 => ?_)
  refine jr_aload_n dJ0_indexOf_7cf53_7 rfl ?_
  refine jr_sValue hi flJ0_9 dJ0_indexOf_7cf53_8 ?_
  refine jr_iload_n dJ0_indexOf_7cf53_11 rfl ?_
  refine jr_iload_n dJ0_indexOf_7cf53_12 rfl ?_
  refine jr_aload_n dJ0_indexOf_7cf53_13 rfl ?_
  refine jc_Xi (c_slen g _ i hi) hi lkJ0_505 rfl rfl (Nat.le_of_ble_eq_true rfl) (Nat.le_of_ble_eq_true rfl) dJ0_indexOf_7cf53_14 (fun r_14 w_14 h_14 => ?_)
  obtain ⟨rfl, rfl⟩ := h_14
  refine jc_Si (c_lix g _ i hi hl0 x hx hx0) lkJ0_637 rfl rfl (Nat.le_of_ble_eq_true rfl) (Nat.le_of_ble_eq_true rfl) dJ0_indexOf_7cf53_17 (fun r_17 w_17 h_17 => ?_)
  obtain ⟨rfl, rfl⟩ := h_17
  refine jr_goto 36 dJ0_indexOf_7cf53_20 (by decide) ?_
  refine jr_iret rfl dJ0_indexOf_7cf53_36 ?_
  exact hQ _ _ ⟨rfl, rfl⟩
theorem c_six (g : Cx) (w : Wd) (i : Nat) (hi : i < 9) (hl0 : 0 < slen i) (x : Int32) (hx : x.toInt8.toInt32 = x) (hx0 : 0 ≤ x.toInt ∧ x.toInt ≤ 255) : CI g yJ0_indexOf_0f7a4 cJ0_indexOf_0f7a4 2 (some .int) 7 0 0 [.ref (gx g (1 + i)), .int x] w (fun r w' => r = sIx i x (slen i) 0 ∧ w = w') := by
  refine CI.ofF (own := RJ0) (nm := "indexOf") (lv := [some (.ref (gx g (1 + i))), some (.int x)]) (by decide +kernel) rfl rfl (Nat.le_of_ble_eq_true rfl) rfl (fun Q hQ => ?_)
  refine jr_aload_n dJ0_indexOf_0f7a4_0 rfl ?_
  refine jr_iload_n dJ0_indexOf_0f7a4_1 rfl ?_
  refine jr_iconst (0) dJ0_indexOf_0f7a4_2 (by decide) ?_
  refine jc_Xi (c_six2 g _ i hi hl0 x hx hx0) hi lkJ0_633 rfl rfl (Nat.le_of_ble_eq_true rfl) (Nat.le_of_ble_eq_true rfl) dJ0_indexOf_0f7a4_3 (fun r_3 w_3 h_3 => ?_)
  obtain ⟨rfl, rfl⟩ := h_3
  refine jr_iret rfl dJ0_indexOf_0f7a4_6 ?_
  exact hQ _ _ ⟨rfl, rfl⟩
