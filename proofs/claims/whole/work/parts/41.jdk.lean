-- the JDK's helpers, the class's static methods
section
variable {g : Cx} {own : String} {cc : ByteArray} {nL : Nat} {ret : Option FieldType} {nm : String} {d kc ks rk rn pc : Nat} {lv : List (Option Value)} {st : List Value} {w : Wd} {Q : Option Value → Wd → Prop}
theorem jr_aloadN {k : Nat} (hd : decode cc pc = .ok (.aload k, 2)) (hi : lv[k]? = some (some .null)) (K : RR g own cc nL ret nm d kc ks rk rn (pc + 2) lv (.null :: st) w Q) : RR g own cc nL ret nm d kc ks rk rn pc lv st w Q :=
  fun p e s m args below meth c H locs cells slots ls hj hr h1 h2 hl => lv_aloadN hj.1.1 hj.1.2.1 hd (jat hl hi) (K p e s m args below meth c H locs cells slots ls hj hr h1 h2 hl)
theorem jr_astoreN_g {k : Nat} (hd : decode cc pc = .ok (.astore k, 2)) (hn : k < nL) (hc : ∀ q, q + 1 = k → jc1 (lv.getD q none) = true) (K : RR g own cc nL ret nm d kc ks rk rn (pc + 2) (lv.set k (some .null)) st w Q) : RR g own cc nL ret nm d kc ks rk rn pc lv (.null :: st) w Q :=
  fun p e s m args below meth c H locs cells slots ls hj hr h1 h2 hl => lv_astoreN hj.1.1 hj.1.2.1 hd hl hn rfl (fun ls' hl' => K p e s m args below meth c H locs cells slots ls' hj hr h1 h2 (jstore hc hl'))
theorem jr_astoreN_4 {a0 a1 a2 a3 a4 : Option Value} {l : List (Option Value)} (hd : decode cc pc = .ok (.astore 4, 2)) (hn : 4 < nL) (hc : jc1 a3 = true) (K : RR g own cc nL ret nm d kc ks rk rn (pc + 2) (a0 :: a1 :: a2 :: a3 :: some .null :: l) st w Q) : RR g own cc nL ret nm d kc ks rk rn pc (a0 :: a1 :: a2 :: a3 :: a4 :: l) (.null :: st) w Q :=
  jr_astoreN_g (k := 4) hd hn (fun q e => by cases e; exact hc) K
end
-- methods of a class that has natives, themselves without a row
theorem ofWF {l : Launch} {y : MethodName} {ws ws' : List Cond} {rm : Room} {Pc : Array Value → State → Prop} {Qc : Array Value → State → Outcome → State → Prop} {mc ms : Nat} {free : Addr → Prop} {cc : ByteArray} {maxL : Nat} {ret : Option FieldType}
    (hy : plainFor y = true) (hw : ws = Cond.code y cc maxL ret :: ws')
    (body : ∀ p e s m args below meth c s₁, BodyLoose p l y (headSpec ws rm) cc maxL ret e s m args below meth c s₁ → c.maxLocals = maxL → Pc args s →
      W p l e (headSpec ws rm).room s m args below meth c s.heap [] 0 0 (MQ below Qc args s mc ms free) (entryFrame m args maxL)) : Met l y ws rm Pc Qc mc ms free := by
  refine MetFree.of_bodySF (code := cc) (maxLocals := maxL) (ret := ret) hy ?_ ?_
  · intro args s m h hn
    obtain ⟨meth, c, h1, h2, h3, h4, h5, h6, -, -⟩ := Cond.code_spec hn (atoms_spec (ws := ws) h _ (by rw [hw]; exact List.mem_cons_self))
    exact ⟨meth, c, h1, h2, h3, h4, h5, h6⟩
  · intro p e s m args below meth c s₁ B hml hP _
    have hh0 : s₁.heap = s.heap := by rw [B.state]; rfl
    obtain ⟨t, a1, o, b1, b2, b3⟩ := body p e s m args below meth c s₁ B hml hP s₁ hh0 (Stand.of_body B)
    exact ⟨t, o, a1, b1, b2, ⟨b3.1, b3.2⟩⟩
theorem CI.ofF {g : Cx} {own : String} {cc : ByteArray} {nL : Nat} {ret : Option FieldType} {nm : String} {d kc ks : Nat} {lv : List (Option Value)} {w : Wd} {y : MethodName} {av : List Value} {P : Int32 → Wd → Prop} (hy : plainFor y = true) (ho : y.cls = own) (hnm : y.name = nm) (hln : (lg_sl av).length ≤ nL) (hlv : lv_args 0 av = jasc 0 lv) (K : ∀ Q : Option Value → Wd → Prop, (∀ r w', P r w' → Q (some (.int r)) w') → RR g own cc nL ret nm d kc ks kc ks 0 lv [] w Q) : CI g y cc nL ret d kc ks av w P := by
  have K1 := K (fun v w' => ∃ r, v = some (.int r) ∧ P r w') (fun r _ h => ⟨r, rfl, h⟩)
  refine ofWF (cc := cc) (maxL := nL) (ret := ret) hy rfl ?_
  intro p e s m args below meth c s₁ B hml hv
  obtain ⟨rfl, hG, hz, hP⟩ := hv
  have hts := atoms_spec (ws := Cond.code y cc nL ret :: kw) B.pre
  have hown : s.vm.findClass own = some m.cls := by rw [← ho]; exact findClass_of_methodNamed B.named
  have hin : meth.name = nm := (name_of_methodNamed B.named B.method).1.trans hnm
  have hl := lv_entry av (n := nL) hln
  rw [lg_entry_eq]
  rw [hlv] at hl
  exact K1 p e s m _ below meth c s.heap [] 0 0 _ ⟨⟨B.exec, B.bytes, hml, hown, fun w h => hts w (List.mem_cons_of_mem _ h)⟩, B.returns, B.notSynchronized, hin, hG⟩ ⟨hz, hP, va_S.rf⟩ (by omega) (by omega) hl
theorem c_min (g : Cx) (w : Wd) (x y : Int32) : CI g yJ9_min_7cf53 cJ9_min_7cf53 2 (some .int) 1 0 0 [.int x, .int y] w (fun r w' => r = (if y.toInt < x.toInt then y else x) ∧ w = w') := by
  refine CI.ofF (own := RJ9) (nm := "min") (lv := [some (.int x), some (.int y)]) (by decide +kernel) rfl rfl (Nat.le_of_ble_eq_true rfl) rfl (fun Q hQ => ?_)
  refine jr_iload_n dJ9_min_7cf53_0 rfl ?_
  refine jr_iload_n dJ9_min_7cf53_1 rfl ?_
  refine jr_icmp_gt 9 dJ9_min_7cf53_2 (by decide) (fun c_2 => ?_) (fun c_2 => ?_)
  · simp only [lt_i, le_i, eq_i, Int32.reduceToInt] at c_2
    refine jr_iload_n dJ9_min_7cf53_9 rfl ?_
    refine jr_iret rfl dJ9_min_7cf53_10 ?_
    first | exact hQ _ _ ⟨(if_pos (by omega)).symm, rfl⟩ | exact hQ _ _ ⟨(if_neg (by omega)).symm, rfl⟩
  · simp only [lt_i, le_i, eq_i, Int32.reduceToInt] at c_2
    refine jr_iload_n dJ9_min_7cf53_5 rfl ?_
    refine jr_goto 10 dJ9_min_7cf53_6 (by decide) ?_
    refine jr_iret rfl dJ9_min_7cf53_10 ?_
    first | exact hQ _ _ ⟨(if_pos (by omega)).symm, rfl⟩ | exact hQ _ _ ⟨(if_neg (by omega)).symm, rfl⟩
theorem c_max (g : Cx) (w : Wd) (x y : Int32) : CI g yJ9_max_7cf53 cJ9_max_7cf53 2 (some .int) 1 0 0 [.int x, .int y] w (fun r w' => r = (if x.toInt < y.toInt then y else x) ∧ w = w') := by
  refine CI.ofF (own := RJ9) (nm := "max") (lv := [some (.int x), some (.int y)]) (by decide +kernel) rfl rfl (Nat.le_of_ble_eq_true rfl) rfl (fun Q hQ => ?_)
  refine jr_iload_n dJ9_max_7cf53_0 rfl ?_
  refine jr_iload_n dJ9_max_7cf53_1 rfl ?_
  refine jr_icmp_lt 9 dJ9_max_7cf53_2 (by decide) (fun c_2 => ?_) (fun c_2 => ?_)
  · simp only [lt_i, le_i, eq_i, Int32.reduceToInt] at c_2
    refine jr_iload_n dJ9_max_7cf53_9 rfl ?_
    refine jr_iret rfl dJ9_max_7cf53_10 ?_
    first | exact hQ _ _ ⟨(if_pos (by omega)).symm, rfl⟩ | exact hQ _ _ ⟨(if_neg (by omega)).symm, rfl⟩
  · simp only [lt_i, le_i, eq_i, Int32.reduceToInt] at c_2
    refine jr_iload_n dJ9_max_7cf53_5 rfl ?_
    refine jr_goto 10 dJ9_max_7cf53_6 (by decide) ?_
    refine jr_iret rfl dJ9_max_7cf53_10 ?_
    first | exact hQ _ _ ⟨(if_pos (by omega)).symm, rfl⟩ | exact hQ _ _ ⟨(if_neg (by omega)).symm, rfl⟩
theorem c_abs (g : Cx) (w : Wd) (x : Int32) : CI g yJ9_abs_0f7a4 cJ9_abs_0f7a4 1 (some .int) 1 0 0 [.int x] w (fun r w' => r = (if x.toInt < 0 then -x else x) ∧ w = w') := by
  refine CI.ofF (own := RJ9) (nm := "abs") (lv := [some (.int x)]) (by decide +kernel) rfl rfl (Nat.le_of_ble_eq_true rfl) rfl (fun Q hQ => ?_)
  refine jr_iload_n dJ9_abs_0f7a4_0 rfl ?_
  refine jr_if_ge 9 dJ9_abs_0f7a4_1 (by decide) (fun c_1 => ?_) (fun c_1 => ?_)
  · simp only [lt_i, le_i, eq_i, Int32.reduceToInt] at c_1
    refine jr_iload_n dJ9_abs_0f7a4_9 rfl ?_
    refine jr_iret rfl dJ9_abs_0f7a4_10 ?_
    first | exact hQ _ _ ⟨(if_pos (by omega)).symm, rfl⟩ | exact hQ _ _ ⟨(if_neg (by omega)).symm, rfl⟩
  · simp only [lt_i, le_i, eq_i, Int32.reduceToInt] at c_1
    refine jr_iload_n dJ9_abs_0f7a4_4 rfl ?_
    refine jr_ineg dJ9_abs_0f7a4_5 ?_
    refine jr_goto 10 dJ9_abs_0f7a4_6 (by decide) ?_
    refine jr_iret rfl dJ9_abs_0f7a4_10 ?_
    first | exact hQ _ _ ⟨(if_pos (by omega)).symm, rfl⟩ | exact hQ _ _ ⟨(if_neg (by omega)).symm, rfl⟩
theorem xor_sg (x y : Int32) : (0 ≤ (x ^^^ y).toInt) ↔ ((0 ≤ x.toInt) ↔ (0 ≤ y.toInt)) := by
  have h := fun z : Int32 => BitVec.msb_eq_toInt (x := z.toBitVec)
  have h1 := h (x ^^^ y)
  rw [Int32.toBitVec_xor, BitVec.msb_xor, h x, h y] at h1
  have e : ∀ z : Int32, z.toBitVec.toInt = z.toInt := fun _ => rfl
  rw [← Int32.toBitVec_xor, e, e, e] at h1
  by_cases a : x.toInt < 0 <;> by_cases b : y.toInt < 0 <;> by_cases c : (x ^^^ y).toInt < 0 <;> simp [a, b, c] at h1 <;> omega
theorem c_fmod (g : Cx) (w : Wd) (x : Int32) (m : Nat) (hm : x.toInt + 720 = m) : CI g yJ9_floorMod_7cf53 cJ9_floorMod_7cf53 3 (some .int) 1 0 0 [.int x, .int 720] w (fun r w' => r = nI (m % 720) ∧ w = w') := by
  have hr := i_rng x
  have hx := xor_sg x 720
  have e720 : (720 : Int32).toInt = 720 := rfl
  rw [e720] at hx
  refine CI.ofF (own := RJ9) (nm := "floorMod") (lv := [some (.int x), some (.int 720), none]) (by decide +kernel) rfl rfl (Nat.le_of_ble_eq_true rfl) rfl (fun Q hQ => ?_)
  by_cases h0 : 0 ≤ x.toInt
  · obtain ⟨a, ha, ea⟩ := i_of (n := 2147483648) (x := x) h0 (by omega)
    have e1 : x.toInt = (a : Int) := by rw [ea, i_nI ha]
    have e2 : x - x / 720 * 720 = nI (m % 720) := by
      rw [ea, jlit 720, pk_rem ha (by decide) (by decide), show m % 720 = a % 720 by omega]
    refine jr_iload_n dJ9_floorMod_7cf53_0 rfl ?_
    refine jr_iload_n dJ9_floorMod_7cf53_1 rfl ?_
    refine jr_irem dJ9_floorMod_7cf53_2 (by decide) ?_
    rw [e2]
    refine jr_istore_2 dJ9_floorMod_7cf53_3 (by decide) rfl ?_
    refine jr_iload_n dJ9_floorMod_7cf53_4 rfl ?_
    refine jr_iload_n dJ9_floorMod_7cf53_5 rfl ?_
    refine jr_ixor dJ9_floorMod_7cf53_6 ?_
    refine jr_if_ge 18 dJ9_floorMod_7cf53_7 (by decide) (fun c_7 => ?_) (fun c_7 => absurd (by rw [le_i]; exact hx.mpr ⟨fun _ => by decide, fun _ => h0⟩) c_7)
    refine jr_iload_n dJ9_floorMod_7cf53_18 rfl ?_
    refine jr_iret rfl dJ9_floorMod_7cf53_19 ?_
    exact hQ _ _ ⟨rfl, rfl⟩
  · have e3 : x / 720 = 0 ∨ m = 0 := by
      by_cases hz : m = 0
      · exact Or.inr hz
      · refine Or.inl ?_
        rw [eq_i, Int32.toInt_div, e720]
        have : x.toInt.tdiv 720 = 0 := by
          have h8 : (-x.toInt).tdiv 720 = 0 := Int.tdiv_eq_zero_of_lt (by omega) (by omega)
          rw [Int.neg_tdiv] at h8
          omega
        rw [this]
        rfl
    have hn7 : ¬ (0 : Int32) ≤ x ^^^ 720 := by
      rw [le_i]
      intro h9
      exact h0 ((hx.mp h9).mpr (by decide))
    rcases e3 with e3 | e3
    · by_cases hz : m = 0
      · subst hz
        exfalso
        have e4 : x = -720 := by rw [eq_i]; show x.toInt = -720; omega
        rw [e4] at e3
        exact absurd e3 (by decide)
      · have e4 : x + 720 = nI (m % 720) := by
          have e5 : x = nI m - 720 := by
            rw [eq_i, jlit 720, pk_sub_toInt (by omega) (by decide)]
            omega
          rw [e5, Nat.mod_eq_of_lt (by omega)]
          exact Int32.sub_add_cancel _ _
        refine jr_iload_n dJ9_floorMod_7cf53_0 rfl ?_
        refine jr_iload_n dJ9_floorMod_7cf53_1 rfl ?_
        refine jr_irem dJ9_floorMod_7cf53_2 (by decide) ?_
        rw [e3, Int32.zero_mul, Int32.sub_zero]
        refine jr_istore_2 dJ9_floorMod_7cf53_3 (by decide) rfl ?_
        refine jr_iload_n dJ9_floorMod_7cf53_4 rfl ?_
        refine jr_iload_n dJ9_floorMod_7cf53_5 rfl ?_
        refine jr_ixor dJ9_floorMod_7cf53_6 ?_
        refine jr_if_ge 18 dJ9_floorMod_7cf53_7 (by decide) (fun c_7 => absurd c_7 hn7) (fun c_7 => ?_)
        refine jr_iload_n dJ9_floorMod_7cf53_10 rfl ?_
        refine jr_if_eq 18 dJ9_floorMod_7cf53_11 (by decide) (fun c_11 => absurd c_11 (by intro h9; rw [h9] at h0; exact h0 (by decide))) (fun c_11 => ?_)
        refine jr_iload_n dJ9_floorMod_7cf53_14 rfl ?_
        refine jr_iload_n dJ9_floorMod_7cf53_15 rfl ?_
        refine jr_iadd dJ9_floorMod_7cf53_16 ?_
        rw [e4]
        refine jr_iret rfl dJ9_floorMod_7cf53_17 ?_
        exact hQ _ _ ⟨rfl, rfl⟩
    · subst e3
      have e4 : x = -720 := by rw [eq_i]; show x.toInt = -720; omega
      subst e4
      refine jr_iload_n dJ9_floorMod_7cf53_0 rfl ?_
      refine jr_iload_n dJ9_floorMod_7cf53_1 rfl ?_
      refine jr_irem dJ9_floorMod_7cf53_2 (by decide) ?_
      refine jr_istore_2 dJ9_floorMod_7cf53_3 (by decide) rfl ?_
      refine jr_iload_n dJ9_floorMod_7cf53_4 rfl ?_
      refine jr_iload_n dJ9_floorMod_7cf53_5 rfl ?_
      refine jr_ixor dJ9_floorMod_7cf53_6 ?_
      refine jr_if_ge 18 dJ9_floorMod_7cf53_7 (by decide) (fun c_7 => absurd c_7 hn7) (fun c_7 => ?_)
      refine jr_iload_n dJ9_floorMod_7cf53_10 rfl ?_
      refine jr_if_eq 18 dJ9_floorMod_7cf53_11 (by decide) (fun c_11 => ?_) (fun c_11 => absurd (by decide) c_11)
      refine jr_iload_n dJ9_floorMod_7cf53_18 rfl ?_
      refine jr_iret rfl dJ9_floorMod_7cf53_19 ?_
      exact hQ _ _ ⟨by decide, rfl⟩
def filR (f : Nat → Int32) (n : Nat) (v : Int32) : Nat → Int32 := fun j => if j < n then v else f j
theorem filR_s (f : Nat → Int32) (n : Nat) (v : Int32) : upd (filR f n v) n v = filR f (n + 1) v := by
  funext j
  by_cases h : j = n
  · subst h
    rw [pk_us, filR, if_pos (by omega)]
  · rw [pk_un h, filR, filR]
    by_cases h2 : j < n
    · rw [if_pos h2, if_pos (by omega)]
    · rw [if_neg h2, if_neg (by omega)]
theorem filR_0 (f : Nat → Int32) (v : Int32) : filR f 0 v = f := by
  funext j
  rw [filR, if_neg (by omega)]
theorem c_fill (g : Cx) (w : Wd) (c n : Nat) (hc : jK w c 11 n) (hn : n < 2 ^ 31) (v : Int32) : CV g yJ7_fill_53178 cJ7_fill_53178 4 1 0 0 [.ref (gb g + c), .int v] w (fun w' => w' = sR w c (filR (wI w c) n v)) := by
  refine CV.of (own := RJ7) (nm := "fill") (lv := [some (.ref (gb g + c)), some (.int v), none, none]) (by decide) rfl rfl (Nat.le_of_ble_eq_true rfl) rfl (fun Q hQ => ?_)
  have L : ∀ f i, f + i = n → RR g RJ7 cJ7_fill_53178 4 none "fill" 1 0 0 0 0 5 [some (.ref (gb g + c)), some (.int v), some (.int (nI i)), some (.int (nI n))] [] (sR w c (filR (wI w c) i v)) Q := by
    intro f
    induction f with
    | zero =>
      intro i hi
      have e : i = n := by omega
      subst e
      refine jr_iload_n dJ7_fill_53178_5 rfl ?_
      refine jr_iload_n dJ7_fill_53178_6 rfl ?_
      refine jr_icmp_ge 20 dJ7_fill_53178_7 (by decide) (fun c_7 => ?_) (fun c_7 => absurd (Int32.le_refl _) c_7)
      refine jr_vret rfl dJ7_fill_53178_20 ?_
      exact hQ _ rfl
    | succ f ih =>
      intro i hi
      have h9 := ih (i + 1) (by omega)
      refine jr_iload_n dJ7_fill_53178_5 rfl ?_
      refine jr_iload_n dJ7_fill_53178_6 rfl ?_
      refine jr_icmp_ge 20 dJ7_fill_53178_7 (by decide) (fun c_7 => absurd c_7 (nI_ge (by omega) (by omega))) (fun c_7 => ?_)
      refine jr_aload_n dJ7_fill_53178_10 rfl ?_
      refine jr_iload_n dJ7_fill_53178_11 rfl ?_
      refine jr_iload_n dJ7_fill_53178_12 rfl ?_
      refine jr_iast i hc rfl ⟨by omega, hn⟩ dJ7_fill_53178_13 ?_
      refine jr_iinc_2 (nI (i + 1)) dJ7_fill_53178_14 (inc1 i) (by decide) rfl ?_
      refine jr_goto 5 dJ7_fill_53178_17 (by decide) ?_
      rw [sR_sR, wI_sR_s, filR_s]; exact h9
  have h0 := L n 0 (by omega)
  rw [filR_0, sR_id] at h0
  refine jr_iconst (0) dJ7_fill_53178_0 (by decide) ?_
  refine jr_istore_2 dJ7_fill_53178_1 (by decide) rfl ?_
  refine jr_aload_n dJ7_fill_53178_2 rfl ?_
  refine jr_alen hc (by decide) dJ7_fill_53178_3 ?_
  refine jr_istore_3 dJ7_fill_53178_4 (by decide) rfl ?_
  exact h0
theorem c_within (g : Cx) (w : Wd) (x y : Int32) : CI g yX8_within cX8_within 2 (some .boolean) 1 0 0 [.int x, .int y] w (fun r w' => r = jb (0 ≤ x.toInt ∧ x.toInt < y.toInt) ∧ w = w') := by
  refine CI.of (own := RX8) (nm := "within") (lv := [some (.int x), some (.int y)]) (by decide) rfl rfl (Nat.le_of_ble_eq_true rfl) rfl (fun Q hQ => ?_)
  refine jr_iload_n dX8_within_0 rfl ?_
  refine jr_if_lt 13 dX8_within_1 (by decide) (fun c_1 => ?_) (fun c_1 => ?_)
  · simp only [lt_i, le_i, eq_i, Int32.reduceToInt] at c_1
    refine jr_iconst (0) dX8_within_13 (by decide) ?_
    refine jr_zret rfl (by decide) dX8_within_14 ?_
    first | exact hQ _ _ ⟨(jb_f (by omega)).symm, rfl⟩ | exact hQ _ _ ⟨(jb_t (by omega)).symm, rfl⟩
  · simp only [lt_i, le_i, eq_i, Int32.reduceToInt] at c_1
    refine jr_iload_n dX8_within_4 rfl ?_
    refine jr_iload_n dX8_within_5 rfl ?_
    refine jr_icmp_ge 13 dX8_within_6 (by decide) (fun c_6 => ?_) (fun c_6 => ?_)
    · simp only [lt_i, le_i, eq_i, Int32.reduceToInt] at c_6
      refine jr_iconst (0) dX8_within_13 (by decide) ?_
      refine jr_zret rfl (by decide) dX8_within_14 ?_
      first | exact hQ _ _ ⟨(jb_f (by omega)).symm, rfl⟩ | exact hQ _ _ ⟨(jb_t (by omega)).symm, rfl⟩
    · simp only [lt_i, le_i, eq_i, Int32.reduceToInt] at c_6
      refine jr_iconst (1) dX8_within_9 (by decide) ?_
      refine jr_goto 14 dX8_within_10 (by decide) ?_
      refine jr_zret rfl (by decide) dX8_within_14 ?_
      first | exact hQ _ _ ⟨(jb_f (by omega)).symm, rfl⟩ | exact hQ _ _ ⟨(jb_t (by omega)).symm, rfl⟩
theorem c_held (g : Cx) (w : Wd) (v lo hi : Int32) : CI g yX8_held cX8_held 3 (some .int) 2 0 0 [.int v, .int lo, .int hi] w (fun r w' => r = (if lo.toInt < (if v.toInt < hi.toInt then v else hi).toInt then (if v.toInt < hi.toInt then v else hi) else lo) ∧ w = w') := by
  refine CI.of (own := RX8) (nm := "held") (lv := [some (.int v), some (.int lo), some (.int hi)]) (by decide) rfl rfl (Nat.le_of_ble_eq_true rfl) rfl (fun Q hQ => ?_)
  refine jr_iload_n dX8_held_0 rfl ?_
  refine jr_iload_n dX8_held_1 rfl ?_
  refine jr_iload_n dX8_held_2 rfl ?_
  refine jc_Si (c_min g _ _ _) lkX8_137 rfl rfl (Nat.le_of_ble_eq_true rfl) (Nat.le_of_ble_eq_true rfl) dX8_held_3 (fun r_3 w_3 h_3 => ?_)
  obtain ⟨rfl, rfl⟩ := h_3
  refine jc_Si (c_max g _ _ _) lkX8_316 rfl rfl (Nat.le_of_ble_eq_true rfl) (Nat.le_of_ble_eq_true rfl) dX8_held_6 (fun r_6 w_6 h_6 => ?_)
  obtain ⟨rfl, rfl⟩ := h_6
  refine jr_iret rfl dX8_held_9 ?_
  exact hQ _ _ ⟨rfl, rfl⟩
theorem c_isUnder (g : Cx) (w : Wd) (kd q : Nat) (hk : kd ≤ 5) (hq : q ≤ 5) : CI g yX8_isUnder cX8_isUnder 4 (some .boolean) 2 0 0 [.int (nI kd), .int (nI q)] w (fun r w' => r = jb (kd = q ∨ q = 0 ∨ (q = 1 ∧ kd = 3) ∨ (q = 2 ∧ kd = 4)) ∧ w = w') := by
  refine CI.of (own := RX8) (nm := "isUnder") (lv := [some (.int (nI kd)), some (.int (nI q)), none, none]) (by decide) rfl rfl (Nat.le_of_ble_eq_true rfl) rfl (fun Q hQ => ?_)
  have S : ∀ (v i : Nat), v ≤ 5 → i ≤ 4 → (v = q → Q (some (.int 1)) w) → (¬ v = q → RR g RX8 cX8_isUnder 4 (some .boolean) "isUnder" 2 0 0 0 0 4 [some (.int (nI kd)), some (.int (nI q)), some (.int (jabv v)), some (.int (nI (i + 1)))] [] w Q) → RR g RX8 cX8_isUnder 4 (some .boolean) "isUnder" 2 0 0 0 0 4 [some (.int (nI kd)), some (.int (nI q)), some (.int (nI v)), some (.int (nI i))] [] w Q := by
    intro v i hv hi h1 h2
    have ev : (nI v).toInt = (v : Int) := i_nI (by omega)
    have e6 : (6 : Int32).toInt = 6 := by decide
    have hb : ¬ jb (0 ≤ (nI v).toInt ∧ (nI v).toInt < (6 : Int32).toInt) = 0 := jb_1.mpr ⟨by omega, by omega⟩
    by_cases e : v = q
    · have h3 := h1 e
      refine jr_iload_n dX8_isUnder_4 rfl ?_
      refine jr_bipush (6) dX8_isUnder_5 (by decide) ?_
      refine jr_icmp_ge 38 dX8_isUnder_7 (by decide) (fun c_7 => absurd c_7 (by rw [jlit 6]; exact nI_ge (by omega) (by decide))) (fun c_7 => ?_)
      refine jr_iload_n dX8_isUnder_10 rfl ?_
      refine jr_bipush (6) dX8_isUnder_11 (by decide) ?_
      refine jc_Si (c_within g _ _ _) lkX8_76 rfl rfl (Nat.le_of_ble_eq_true rfl) (Nat.le_of_ble_eq_true rfl) dX8_isUnder_13 (fun r_13 w_13 h_13 => ?_)
      obtain ⟨rfl, rfl⟩ := h_13
      refine jr_if_eq 38 dX8_isUnder_16 (by decide) (fun c_16 => absurd c_16 hb) (fun c_16 => ?_)
      refine jr_iload_n dX8_isUnder_19 rfl ?_
      refine jr_iload_n dX8_isUnder_20 rfl ?_
      refine jr_icmp_ne 26 dX8_isUnder_21 (by decide) (fun c_21 => absurd (by rw [e]) c_21) (fun c_21 => ?_)
      refine jr_iconst (1) dX8_isUnder_24 (by decide) ?_
      refine jr_zret rfl (by decide) dX8_isUnder_25 ?_
      exact h3
    · have h3 := h2 e
      refine jr_iload_n dX8_isUnder_4 rfl ?_
      refine jr_bipush (6) dX8_isUnder_5 (by decide) ?_
      refine jr_icmp_ge 38 dX8_isUnder_7 (by decide) (fun c_7 => absurd c_7 (by rw [jlit 6]; exact nI_ge (by omega) (by decide))) (fun c_7 => ?_)
      refine jr_iload_n dX8_isUnder_10 rfl ?_
      refine jr_bipush (6) dX8_isUnder_11 (by decide) ?_
      refine jc_Si (c_within g _ _ _) lkX8_76 rfl rfl (Nat.le_of_ble_eq_true rfl) (Nat.le_of_ble_eq_true rfl) dX8_isUnder_13 (fun r_13 w_13 h_13 => ?_)
      obtain ⟨rfl, rfl⟩ := h_13
      refine jr_if_eq 38 dX8_isUnder_16 (by decide) (fun c_16 => absurd c_16 hb) (fun c_16 => ?_)
      refine jr_iload_n dX8_isUnder_19 rfl ?_
      refine jr_iload_n dX8_isUnder_20 rfl ?_
      refine jr_icmp_ne 26 dX8_isUnder_21 (by decide) (fun c_21 => ?_) (fun c_21 => absurd c_21 (fun h => e (nI_inj (by omega) (by omega) h)))
      refine jr_gAbove flX8_319 dX8_isUnder_26 ?_
      refine jr_iload_n dX8_isUnder_29 rfl ?_
      refine jr_ldAbove v rfl (by omega) dX8_isUnder_30 ?_
      refine jr_istore_2 dX8_isUnder_31 (by decide) rfl ?_
      refine jr_iinc_3 (nI (i + 1)) dX8_isUnder_32 (inc1 i) (by decide) rfl ?_
      refine jr_goto 4 dX8_isUnder_35 (by decide) ?_
      exact h3
  have E : ∀ i, i ≤ 5 → Q (some (.int 0)) w → RR g RX8 cX8_isUnder 4 (some .boolean) "isUnder" 2 0 0 0 0 4 [some (.int (nI kd)), some (.int (nI q)), some (.int (-1)), some (.int (nI i))] [] w Q := by
    intro i hi h1
    have hb : jb (0 ≤ (-1 : Int32).toInt ∧ (-1 : Int32).toInt < (6 : Int32).toInt) = 0 := by decide
    refine jr_iload_n dX8_isUnder_4 rfl ?_
    refine jr_bipush (6) dX8_isUnder_5 (by decide) ?_
    refine jr_icmp_ge 38 dX8_isUnder_7 (by decide) (fun c_7 => absurd c_7 (by rw [jlit 6]; exact nI_ge (by omega) (by decide))) (fun c_7 => ?_)
    refine jr_iload_n dX8_isUnder_10 rfl ?_
    refine jr_bipush (6) dX8_isUnder_11 (by decide) ?_
    refine jc_Si (c_within g _ _ _) lkX8_76 rfl rfl (Nat.le_of_ble_eq_true rfl) (Nat.le_of_ble_eq_true rfl) dX8_isUnder_13 (fun r_13 w_13 h_13 => ?_)
    obtain ⟨rfl, rfl⟩ := h_13
    refine jr_if_eq 38 dX8_isUnder_16 (by decide) (fun c_16 => ?_) (fun c_16 => absurd hb c_16)
    refine jr_iconst (0) dX8_isUnder_38 (by decide) ?_
    refine jr_zret rfl (by decide) dX8_isUnder_39 ?_
    exact h1
  have y1 : (kd = q ∨ q = 0 ∨ (q = 1 ∧ kd = 3) ∨ (q = 2 ∧ kd = 4)) → Q (some (.int 1)) w := fun h => hQ _ _ ⟨(jb_t h).symm, rfl⟩
  have y0 : ¬ (kd = q ∨ q = 0 ∨ (q = 1 ∧ kd = 3) ∨ (q = 2 ∧ kd = 4)) → Q (some (.int 0)) w := fun h => hQ _ _ ⟨(jb_f h).symm, rfl⟩
  have Z : RR g RX8 cX8_isUnder 4 (some .boolean) "isUnder" 2 0 0 0 0 4 [some (.int (nI kd)), some (.int (nI q)), some (.int (nI kd)), some (.int (nI 0))] [] w Q := by
    have h0 : ∀ i, i ≤ 4 → (kd = 0 ∨ kd = 1 ∨ kd = 2 ∨ kd = 5 ∨ kd = 3 ∨ kd = 4) → (¬ 0 = q → ¬ (kd = q ∨ q = 0 ∨ (q = 1 ∧ kd = 3) ∨ (q = 2 ∧ kd = 4))) → RR g RX8 cX8_isUnder 4 (some .boolean) "isUnder" 2 0 0 0 0 4 [some (.int (nI kd)), some (.int (nI q)), some (.int (nI 0)), some (.int (nI i))] [] w Q :=
      fun i hi _ h => S 0 i (by omega) hi (fun e => y1 (by omega)) (fun e => E (i + 1) (by omega) (y0 (h e)))
    have hc : kd = 0 ∨ kd = 1 ∨ kd = 2 ∨ kd = 3 ∨ kd = 4 ∨ kd = 5 := by omega
    rcases hc with e | e | e | e | e | e
    · refine S kd 0 (by omega) (by omega) (fun h => y1 (by omega)) (fun h => ?_)
      rw [e] at h ⊢
      rw [e] at S E y1 y0
      exact E 1 (by omega) (y0 (by omega))
    · refine S kd 0 (by omega) (by omega) (fun h => y1 (by omega)) (fun h => ?_)
      rw [show jabv kd = nI 0 by rw [e]; rfl]
      exact h0 1 (by omega) (by omega) (by omega)
    · refine S kd 0 (by omega) (by omega) (fun h => y1 (by omega)) (fun h => ?_)
      rw [show jabv kd = nI 0 by rw [e]; rfl]
      exact h0 1 (by omega) (by omega) (by omega)
    · refine S kd 0 (by omega) (by omega) (fun h => y1 (by omega)) (fun h => ?_)
      rw [show jabv kd = nI 1 by rw [e]; rfl]
      refine S 1 1 (by omega) (by omega) (fun h => y1 (by omega)) (fun h => ?_)
      rw [show jabv 1 = nI 0 from rfl]
      exact h0 2 (by omega) (by omega) (by omega)
    · refine S kd 0 (by omega) (by omega) (fun h => y1 (by omega)) (fun h => ?_)
      rw [show jabv kd = nI 2 by rw [e]; rfl]
      refine S 2 1 (by omega) (by omega) (fun h => y1 (by omega)) (fun h => ?_)
      rw [show jabv 2 = nI 0 from rfl]
      exact h0 2 (by omega) (by omega) (by omega)
    · refine S kd 0 (by omega) (by omega) (fun h => y1 (by omega)) (fun h => ?_)
      rw [show jabv kd = nI 0 by rw [e]; rfl]
      exact h0 1 (by omega) (by omega) (by omega)
  refine jr_iload_n dX8_isUnder_0 rfl ?_
  refine jr_istore_2 dX8_isUnder_1 (by decide) rfl ?_
  refine jr_iconst (0) dX8_isUnder_2 (by decide) ?_
  refine jr_istore_3 dX8_isUnder_3 (by decide) rfl ?_
  exact Z
theorem c_full (g : Cx) (w : Wd) (kd h : Nat) (hk : kd ≤ 5) (hh : h ≤ 12) : CI g yX8_fullStrokes cX8_fullStrokes 2 (some .int) 1 0 0 [.int (nI kd), .int (nI h)] w (fun r w' => r = nI (ahF kd h) ∧ w = w') := by
  have ek : (nI kd).toInt = (kd : Int) := i_nI (by omega)
  refine CI.of (own := RX8) (nm := "fullStrokes") (lv := [some (.int (nI kd)), some (.int (nI h))]) (by decide) rfl rfl (Nat.le_of_ble_eq_true rfl) rfl (fun Q hQ => ?_)
  refine jr_iload_n dX8_fullStrokes_0 rfl ?_
  refine swX8_fullStrokes_1 (fun c_1 => ?_) (fun c_1 => ?_) (fun c_1 => ?_)
  · refine jr_iload_n dX8_fullStrokes_28 rfl ?_
    refine jr_iconst (4) dX8_fullStrokes_29 (by decide) ?_
    refine jr_iadd dX8_fullStrokes_30 ?_
    refine jr_iret rfl dX8_fullStrokes_31 ?_
    refine hQ _ _ ⟨?_, rfl⟩
    first | (rw [ahF, if_pos (by omega), jlit 4, nI_add]; done) | (rw [ahF, if_neg (by omega), if_pos (by omega), jlit 5, pk_rem (by omega) (by decide) (by decide), pk_div (by omega) (by decide) (by decide), nI_add]; done) | rw [ahF, if_neg (by omega), if_neg (by omega)]
  · refine jr_iload_n dX8_fullStrokes_32 rfl ?_
    refine jr_iconst (5) dX8_fullStrokes_33 (by decide) ?_
    refine jr_idiv dX8_fullStrokes_34 (by decide) ?_
    refine jr_iload_n dX8_fullStrokes_35 rfl ?_
    refine jr_iconst (5) dX8_fullStrokes_36 (by decide) ?_
    refine jr_irem dX8_fullStrokes_37 (by decide) ?_
    refine jr_iadd dX8_fullStrokes_38 ?_
    refine jr_iret rfl dX8_fullStrokes_39 ?_
    refine hQ _ _ ⟨?_, rfl⟩
    first | (rw [ahF, if_pos (by omega), jlit 4, nI_add]; done) | (rw [ahF, if_neg (by omega), if_pos (by omega), jlit 5, pk_rem (by omega) (by decide) (by decide), pk_div (by omega) (by decide) (by decide), nI_add]; done) | rw [ahF, if_neg (by omega), if_neg (by omega)]
  · refine jr_iload_n dX8_fullStrokes_40 rfl ?_
    refine jr_iret rfl dX8_fullStrokes_41 ?_
    refine hQ _ _ ⟨?_, rfl⟩
    first | (rw [ahF, if_pos (by omega), jlit 4, nI_add]; done) | (rw [ahF, if_neg (by omega), if_pos (by omega), jlit 5, pk_rem (by omega) (by decide) (by decide), pk_div (by omega) (by decide) (by decide), nI_add]; done) | rw [ahF, if_neg (by omega), if_neg (by omega)]
def swF (kd h m ag : Nat) : Nat :=
  if m = 0 then ahF kd h else if kd = 1 ∨ kd = 3 then (if m % 15 = 0 then m / 15 else 0) else if kd = 2 ∨ kd = 4 then (if m = ag then ahF kd h else 0) else if kd = 5 then (if m = 30 then 1 else 0) else 0
theorem c_sWithin (g : Cx) (w : Wd) (kd h m ag : Nat) (hk : kd ≤ 5) (hh : h ≤ 12) (hm : m < 1000) (ha : ag < 1000) : CI g yX8_strokesWithin cX8_strokesWithin 4 (some .int) 2 0 0 [.int (nI kd), .int (nI h), .int (nI m), .int (nI ag)] w (fun r w' => r = nI (swF kd h m ag) ∧ w = w') := by
  have ek : (nI kd).toInt = (kd : Int) := i_nI (by omega)
  have em : (nI m).toInt = (m : Int) := i_nI (by omega)
  have ea : (nI ag).toInt = (ag : Int) := i_nI (by omega)
  have e15 : (nI (m % 15)).toInt = ((m % 15 : Nat) : Int) := i_nI (by omega)
  refine CI.of (own := RX8) (nm := "strokesWithin") (lv := [some (.int (nI kd)), some (.int (nI h)), some (.int (nI m)), some (.int (nI ag))]) (by decide) rfl rfl (Nat.le_of_ble_eq_true rfl) rfl (fun Q hQ => ?_)
  refine jr_iload_n dX8_strokesWithin_0 rfl ?_
  refine jr_if_ne 10 dX8_strokesWithin_1 (by decide) (fun c_1 => ?_) (fun c_1 => ?_)
  · simp only [lt_i, le_i, eq_i, Int32.reduceToInt] at c_1
    refine jr_iload_n dX8_strokesWithin_10 rfl ?_
    refine swX8_strokesWithin_11 (fun c_11 => ?_) (fun c_11 => ?_) (fun c_11 => ?_) (fun c_11 => ?_)
    · refine jr_iload_n dX8_strokesWithin_44 rfl ?_
      refine jr_bipush (15) dX8_strokesWithin_45 (by decide) ?_
      refine jr_irem dX8_strokesWithin_47 (by decide) ?_
      rw [jlit 15, pk_rem (by omega) (by decide) (by decide)]
      refine jr_if_ne 58 dX8_strokesWithin_48 (by decide) (fun c_48 => ?_) (fun c_48 => ?_)
      · simp only [lt_i, le_i, eq_i, Int32.reduceToInt] at c_48
        refine jr_iconst (0) dX8_strokesWithin_58 (by decide) ?_
        refine jr_iret rfl dX8_strokesWithin_59 ?_
        refine hQ _ _ ⟨?_, rfl⟩
        rw [swF, if_neg (by omega), if_pos (by omega)]
        first | (rw [if_pos (by omega)]; exact pk_div (by omega) (by decide) (by decide)) | (rw [if_neg (by omega)]; rfl)
      · simp only [lt_i, le_i, eq_i, Int32.reduceToInt] at c_48
        refine jr_iload_n dX8_strokesWithin_51 rfl ?_
        refine jr_bipush (15) dX8_strokesWithin_52 (by decide) ?_
        refine jr_idiv dX8_strokesWithin_54 (by decide) ?_
        refine jr_goto 59 dX8_strokesWithin_55 (by decide) ?_
        refine jr_iret rfl dX8_strokesWithin_59 ?_
        refine hQ _ _ ⟨?_, rfl⟩
        rw [swF, if_neg (by omega), if_pos (by omega)]
        first | (rw [if_pos (by omega)]; exact pk_div (by omega) (by decide) (by decide)) | (rw [if_neg (by omega)]; rfl)
    · refine jr_iload_n dX8_strokesWithin_60 rfl ?_
      refine jr_iload_n dX8_strokesWithin_61 rfl ?_
      refine jr_icmp_ne 73 dX8_strokesWithin_62 (by decide) (fun c_62 => ?_) (fun c_62 => ?_)
      · simp only [lt_i, le_i, eq_i, Int32.reduceToInt] at c_62
        refine jr_iconst (0) dX8_strokesWithin_73 (by decide) ?_
        refine jr_iret rfl dX8_strokesWithin_74 ?_
        refine hQ _ _ ⟨?_, rfl⟩
        rw [swF, if_neg (by omega), if_neg (by omega), if_pos (by omega)]
        first | rw [if_pos (by omega)] | (rw [if_neg (by omega)]; rfl)
      · simp only [lt_i, le_i, eq_i, Int32.reduceToInt] at c_62
        refine jr_iload_n dX8_strokesWithin_65 rfl ?_
        refine jr_iload_n dX8_strokesWithin_66 rfl ?_
        refine jc_Si (c_full g _ kd h hk hh) lkX8_322 rfl rfl (Nat.le_of_ble_eq_true rfl) (Nat.le_of_ble_eq_true rfl) dX8_strokesWithin_67 (fun r_67 w_67 h_67 => ?_)
        obtain ⟨rfl, rfl⟩ := h_67
        refine jr_goto 74 dX8_strokesWithin_70 (by decide) ?_
        refine jr_iret rfl dX8_strokesWithin_74 ?_
        refine hQ _ _ ⟨?_, rfl⟩
        rw [swF, if_neg (by omega), if_neg (by omega), if_pos (by omega)]
        first | rw [if_pos (by omega)] | (rw [if_neg (by omega)]; rfl)
    · refine jr_iload_n dX8_strokesWithin_75 rfl ?_
      refine jr_bipush (30) dX8_strokesWithin_76 (by decide) ?_
      refine jr_icmp_ne 85 dX8_strokesWithin_78 (by decide) (fun c_78 => ?_) (fun c_78 => ?_)
      · simp only [lt_i, le_i, eq_i, Int32.reduceToInt] at c_78
        refine jr_iconst (0) dX8_strokesWithin_85 (by decide) ?_
        refine jr_iret rfl dX8_strokesWithin_86 ?_
        refine hQ _ _ ⟨?_, rfl⟩
        rw [swF, if_neg (by omega), if_neg (by omega), if_neg (by omega), if_pos (by omega)]
        first | (rw [if_pos (by omega)]; rfl) | (rw [if_neg (by omega)]; rfl)
      · simp only [lt_i, le_i, eq_i, Int32.reduceToInt] at c_78
        refine jr_iconst (1) dX8_strokesWithin_81 (by decide) ?_
        refine jr_goto 86 dX8_strokesWithin_82 (by decide) ?_
        refine jr_iret rfl dX8_strokesWithin_86 ?_
        refine hQ _ _ ⟨?_, rfl⟩
        rw [swF, if_neg (by omega), if_neg (by omega), if_neg (by omega), if_pos (by omega)]
        first | (rw [if_pos (by omega)]; rfl) | (rw [if_neg (by omega)]; rfl)
    · refine jr_iconst (0) dX8_strokesWithin_87 (by decide) ?_
      refine jr_iret rfl dX8_strokesWithin_88 ?_
      exact hQ _ _ ⟨by rw [swF, if_neg (by omega), if_neg (by omega), if_neg (by omega), if_neg (by omega)]; rfl, rfl⟩
  · simp only [lt_i, le_i, eq_i, Int32.reduceToInt] at c_1
    refine jr_iload_n dX8_strokesWithin_4 rfl ?_
    refine jr_iload_n dX8_strokesWithin_5 rfl ?_
    refine jc_Si (c_full g _ kd h hk hh) lkX8_322 rfl rfl (Nat.le_of_ble_eq_true rfl) (Nat.le_of_ble_eq_true rfl) dX8_strokesWithin_6 (fun r_6 w_6 h_6 => ?_)
    obtain ⟨rfl, rfl⟩ := h_6
    refine jr_iret rfl dX8_strokesWithin_9 ?_
    exact hQ _ _ ⟨by rw [swF, if_pos (by omega)], rfl⟩
theorem c_cTake (g : Cx) (w : Wd) (a b : Nat) (ha : jK w a 0 0) (hb : jK w b 0 0) (hab : a ≠ b) : CV g yX0_take cX0_take 2 1 0 0 [.ref (gb g + a), .ref (gb g + b)] w (fun w' => w' = sR w a (upd (upd (upd (wI w a) 0 (wI w b 0)) 1 (wI w b 1)) 2 (wI w b 2))) := by
  refine CV.of (own := RX0) (nm := "take") (lv := [some (.ref (gb g + a)), some (.ref (gb g + b))]) (by decide) rfl rfl (Nat.le_of_ble_eq_true rfl) rfl (fun Q hQ => ?_)
  refine jr_aload_n dX0_take_0 rfl ?_
  refine jr_aload_n dX0_take_1 rfl ?_
  refine gfX0_9 dX0_take_2 hb ?_
  refine pfX0_9 dX0_take_5 ha ?_
  skip
  refine jr_aload_n dX0_take_8 rfl ?_
  refine jr_aload_n dX0_take_9 rfl ?_
  refine gfX0_15 dX0_take_10 hb ?_
  rw [wI_sR_n _ (Ne.symm hab)]
  refine pfX0_15 dX0_take_13 ha ?_
  rw [sR_sR, wI_sR_s]
  refine jr_aload_n dX0_take_16 rfl ?_
  refine jr_aload_n dX0_take_17 rfl ?_
  refine gfX0_18 dX0_take_18 hb ?_
  rw [wI_sR_n _ (Ne.symm hab)]
  refine pfX0_18 dX0_take_21 ha ?_
  rw [sR_sR, wI_sR_s]
  refine jr_vret rfl dX0_take_24 ?_
  exact hQ _ rfl
theorem c_cworth (g : Cx) (w : Wd) (a kd : Nat) (ha : jK w a 0 0) (hk : kd ≤ 5) (h0 : wI w a 0 = nI kd) : CI g yX0_worth cX0_worth 1 (some .int) 1 0 0 [.ref (gb g + a)] w (fun r w' => r = woF kd (wI w a 1) ∧ w = w') := by
  have ek : (nI kd).toInt = (kd : Int) := i_nI (by omega)
  refine CI.of (own := RX0) (nm := "worth") (lv := [some (.ref (gb g + a))]) (by decide) rfl rfl (Nat.le_of_ble_eq_true rfl) rfl (fun Q hQ => ?_)
  refine jr_aload_n dX0_worth_0 rfl ?_
  refine gfX0_9 dX0_worth_1 ha ?_
  rw [h0]
  refine swX0_worth_4 (fun c_4 => ?_) (fun c_4 => ?_) (fun c_4 => ?_) (fun c_4 => ?_) (fun c_4 => ?_) (fun c_4 => ?_)
  · refine jr_aload_n dX0_worth_40 rfl ?_
    refine gfX0_15 dX0_worth_41 ha ?_
    refine jr_iconst (4) dX0_worth_44 (by decide) ?_
    refine jr_iadd dX0_worth_45 ?_
    refine jr_iret rfl dX0_worth_46 ?_
    exact hQ _ _ ⟨by rw [woF, if_pos (by omega)], rfl⟩
  · refine jr_bipush (60) dX0_worth_56 (by decide) ?_
    refine jr_aload_n dX0_worth_58 rfl ?_
    refine gfX0_15 dX0_worth_59 ha ?_
    refine jr_isub dX0_worth_62 ?_
    refine jr_iret rfl dX0_worth_63 ?_
    exact hQ _ _ ⟨by rw [woF, if_neg (by omega), if_neg (by omega), if_pos (by omega)], rfl⟩
  · refine jr_iconst (2) dX0_worth_47 (by decide) ?_
    refine jr_aload_n dX0_worth_48 rfl ?_
    refine gfX0_15 dX0_worth_49 ha ?_
    refine jr_iconst (4) dX0_worth_52 (by decide) ?_
    refine jr_iadd dX0_worth_53 ?_
    refine jr_imul dX0_worth_54 ?_
    refine jr_iret rfl dX0_worth_55 ?_
    exact hQ _ _ ⟨by rw [woF, if_neg (by omega), if_pos (by omega)], rfl⟩
  · refine jr_bipush (60) dX0_worth_64 (by decide) ?_
    refine jr_aload_n dX0_worth_66 rfl ?_
    refine gfX0_15 dX0_worth_67 ha ?_
    refine jr_isub dX0_worth_70 ?_
    refine jr_iconst (5) dX0_worth_71 (by decide) ?_
    refine jr_isub dX0_worth_72 ?_
    refine jr_iret rfl dX0_worth_73 ?_
    exact hQ _ _ ⟨by rw [woF, if_neg (by omega), if_neg (by omega), if_neg (by omega), if_pos (by omega), Int32.sub_sub, Int32.add_comm, ← Int32.sub_sub]; rfl, rfl⟩
  · refine jr_iconst (2) dX0_worth_74 (by decide) ?_
    refine jr_iret rfl dX0_worth_75 ?_
    exact hQ _ _ ⟨by rw [woF, if_neg (by omega), if_neg (by omega), if_neg (by omega), if_neg (by omega), if_pos (by omega)], rfl⟩
  · refine jr_aload_n dX0_worth_76 rfl ?_
    refine gfX0_15 dX0_worth_77 ha ?_
    refine jr_iret rfl dX0_worth_80 ?_
    exact hQ _ _ ⟨by rw [woF, if_neg (by omega), if_neg (by omega), if_neg (by omega), if_neg (by omega), if_neg (by omega)], rfl⟩
