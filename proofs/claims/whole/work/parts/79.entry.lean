-- what holds at the law's entry: classes, array classes, the static rows, the String constants
theorem fl_a : ∀ j, j < 6 → Cond.eq (.elem (.static "StrokesHeard" "ABOVE" "[I") (.int (Int32.ofNat j))) (.int (jabv j)) ∈ flatC (Jvm.Cond.and given_1 narrow_1) := by decide +kernel
theorem fl_b : Cond.arrayOf (.static "StrokesHeard" "ABOVE" "[I") .int ∈ flatC (Jvm.Cond.and given_1 narrow_1) ∧ Cond.eq (.length (.static "StrokesHeard" "ABOVE" "[I")) (.int (Int32.ofNat 6)) ∈ flatC (Jvm.Cond.and given_1 narrow_1) ∧ Cond.eq (.static "java/lang/String" "COMPACT_STRINGS" "Z") (.int 1) ∈ flatC (Jvm.Cond.and given_1 narrow_1) ∧ Cond.isRef (.static "jdk/internal/util/Preconditions" "SIOOBE_FORMATTER" "Ljava/util/function/BiFunction;") ∈ flatC (Jvm.Cond.and given_1 narrow_1) := by decide +kernel
def tmS (i : Nat) : Term := .string RX6 (jstr.getD i (0, "")).1
theorem fl_c : ∀ i, i < 9 → Cond.exactly (tmS i) "java/lang/String" ∈ flatC (Jvm.Cond.and given_1 narrow_1) ∧ Cond.eq (.field (tmS i) "java/lang/String" "coder" "B") (.int 0) ∈ flatC (Jvm.Cond.and given_1 narrow_1) ∧ Cond.arrayOf (.field (tmS i) "java/lang/String" "value" "[B") .byte ∈ flatC (Jvm.Cond.and given_1 narrow_1) ∧ Cond.eq (.length (.field (tmS i) "java/lang/String" "value" "[B")) (.int (Int32.ofNat (jlens.getD i 0))) ∈ flatC (Jvm.Cond.and given_1 narrow_1) ∧ jlens.getD i 0 < 2 ^ 31 := by decide +kernel
theorem fl_d : ∀ i, i < 9 → ∀ j, j < jlens.getD i 0 → Cond.eq (.elem (.field (tmS i) "java/lang/String" "value" "[B") (.int (Int32.ofNat j))) (.int ((jbyts.getD i []).getD j 0)) ∈ flatC (Jvm.Cond.and given_1 narrow_1) := by decide +kernel
theorem fl_e : ∀ i, i < 9 → ∀ j, j < 9 → i ≠ j → Cond.not (Cond.eq (tmS i) (tmS j)) ∈ flatC (Jvm.Cond.and given_1 narrow_1) ∨ Cond.not (Cond.eq (tmS j) (tmS i)) ∈ flatC (Jvm.Cond.and given_1 narrow_1) := by decide +kernel
theorem tb_a : ∀ q ∈ jnest, Cond.methodLinkNest q.1 q.2.1 q.2.2.1 q.2.2.2 ∈ lw_tbl := by decide +kernel
theorem tb_b : ∀ C ∈ jarr, Cond.arrayOver (.object C) ∈ lw_tbl := by decide +kernel
theorem tb_c : ∀ i, i < 9 → Cond.stringRef RX6 (jstr.getD i (0, "")).1 (jstr.getD i (0, "")).2 ∈ lw_tbl := by decide +kernel
theorem tb_d : Cond.laysStatic "StrokesHeard" "ABOVE" "[I" ∈ lw_tbl ∧ Cond.initialized "StrokesHeard" ∈ lw_tbl ∧ Cond.laysStatic "java/lang/String" "COMPACT_STRINGS" "Z" ∈ lw_tbl ∧ Cond.initialized "java/lang/String" ∈ lw_tbl ∧ Cond.laysStatic "jdk/internal/util/Preconditions" "SIOOBE_FORMATTER" "Ljava/util/function/BiFunction;" ∈ lw_tbl ∧ Cond.initialized "jdk/internal/util/Preconditions" ∈ lw_tbl := by decide +kernel
theorem ar_of {args : Array Value} {s : State} {ty : FieldType} (h : (Cond.arrayClass ty).before args s = true) : ∃ cA, ArrOfT s cA ty ∧ s.vm.findClass ("[" ++ ty.toString) = some cA := by
  obtain ⟨cA, k, comp, h1, h2, h3⟩ := Cond.arrayClass_spec h
  exact ⟨cA, fun n z => ⟨fun k h => (by cases h), k, h2, comp, h3⟩, h1⟩
theorem ao_of {args : Array Value} {s : State} {C : String} (h : (Cond.arrayOver (.object C)).before args s = true) : ∃ cA, ArrOfT s cA (.object C) ∧ va_RA s cA (.object C) := by
  obtain ⟨comp, cA, k, h1, -, h3, h4, h5⟩ := Cond.arrayOver_spec h
  exact ⟨cA, fun n z => ⟨fun k h => (by cases h), k, h3, comp, h4⟩, k, comp, h3, h4, h1, h5⟩
def gxS (t : Nat) (adK adV : Nat → Nat) (k : Nat) : Nat := if k = 0 then t else if k < 10 then adK (k - 1) else adV (k - 10)
theorem gxS_k (t : Nat) (adK adV : Nat → Nat) {i : Nat} (h : i < 9) : gxS t adK adV (1 + i) = adK i := by
  unfold gxS
  rw [if_neg (by omega), if_pos (by omega), show 1 + i - 1 = i by omega]
theorem gxS_v (t : Nat) (adK adV : Nat → Nat) {i : Nat} (h : i < 9) : gxS t adK adV (10 + i) = adV i := by
  unfold gxS
  rw [if_neg (by omega), if_neg (by omega), show 10 + i - 10 = i by omega]
theorem start_GS (l : Launch) {s : State} {b : Nat} (hts : ∀ w ∈ lw_tbl, w.before #[Value.ref b] s = true) (hgv : (Jvm.Cond.and given_1 narrow_1).before #[Value.ref b] s = true) : ∃ g : Cx, gl g = l ∧ gb g = s.heap.size ∧ GS g s := by
  have hA : ∀ a : Nat, a < s.heap.size → ¬ (fun q : Nat => s.heap.size ≤ q) a := fun a h => Nat.not_le.mpr h
  have hq := flat_of_before _ hgv
  have hkw : ∀ w ∈ kw, w.before #[Value.ref b] s = true := fun w h => hts w (List.mem_filter.mp h).1
  obtain ⟨c0, i0, k0⟩ := u_known (C := RX0) (T := TX0) (N := 3) hkw huX0 (hkw _ instX0)
  obtain ⟨c1, i1, k1⟩ := u_known (C := RX1) (T := TX1) (N := 6) hkw huX1 (hkw _ instX1)
  obtain ⟨c2, i2, k2⟩ := u_known (C := RX2) (T := TX2) (N := 14) hkw huX2 (hkw _ instX2)
  obtain ⟨c3, i3, k3⟩ := u_known (C := RX3) (T := TX3) (N := 3) hkw huX3 (hkw _ instX3)
  obtain ⟨c4, i4, k4⟩ := u_known (C := RX4) (T := TX4) (N := 4) hkw huX4 (hkw _ instX4)
  obtain ⟨c5, i5, k5⟩ := u_known (C := RX5) (T := TX5) (N := 4) hkw huX5 (hkw _ instX5)
  obtain ⟨c6, i6, k6⟩ := u_known (C := RX6) (T := TX6) (N := 9) hkw huX6 (hkw _ instX6)
  obtain ⟨c7, i7, k7⟩ := u_known (C := RX7) (T := TX7) (N := 6) hkw huX7 (hkw _ instX7)
  obtain ⟨c8, i8, k8⟩ := u_known (C := RX8) (T := TX8) (N := 13) hkw huX8 (hkw _ instX8)
  obtain ⟨c9, i9, k9⟩ := u_known (C := RX9) (T := TX9) (N := 32) hkw huX9 (hkw _ instX9)
  have hKc : ∀ (k : Nat) (q : vw_C), kcl[k]? = some q → u_Kn s q.1 q.2.1 q.2.2 ((fun k : Nat => if k = 0 then c0 else if k = 1 then c1 else if k = 2 then c2 else if k = 3 then c3 else if k = 4 then c4 else if k = 5 then c5 else if k = 6 then c6 else if k = 7 then c7 else if k = 8 then c8 else c9) k) ((fun k : Nat => if k = 0 then i0 else if k = 1 then i1 else if k = 2 then i2 else if k = 3 then i3 else if k = 4 then i4 else if k = 5 then i5 else if k = 6 then i6 else if k = 7 then i7 else if k = 8 then i8 else i9) k) := by
    intro k q hk
    match k, hk with
    | 0, hk => cases hk; exact k0
    | 1, hk => cases hk; exact k1
    | 2, hk => cases hk; exact k2
    | 3, hk => cases hk; exact k3
    | 4, hk => cases hk; exact k4
    | 5, hk => cases hk; exact k5
    | 6, hk => cases hk; exact k6
    | 7, hk => cases hk; exact k7
    | 8, hk => cases hk; exact k8
    | 9, hk => cases hk; exact k9
    | k + 10, hk => simp [kcl] at hk
  obtain ⟨a0, x0, y0⟩ := ar_of (hkw _ arB)
  obtain ⟨a1, x1, y1⟩ := ar_of (hkw _ arI)
  obtain ⟨a2, x2, y2⟩ := ao_of (hts _ (tb_b RX0 (by decide)))
  obtain ⟨a3, x3, y3⟩ := ao_of (hts _ (tb_b RX3 (by decide)))
  obtain ⟨a4, x4, y4⟩ := ao_of (hts _ (tb_b RX4 (by decide)))
  obtain ⟨a5, x5, y5⟩ := ao_of (hts _ (tb_b RX5 (by decide)))
  obtain ⟨t, ht, hT⟩ := va_Tof (args := #[Value.ref b]) (s := s) (tm := .static "StrokesHeard" "ABOVE" "[I") (ty := .int) (N := 6) (f := fun j => .int (jabv j)) (A := fun q : Nat => s.heap.size ≤ q) (by decide) (hq _ fl_b.1) (va_eqt (hq _ fl_b.2.1)) (fun j hj => va_eqt (hq _ (fl_a j hj))) hA
  obtain ⟨d1, d2, d3, d4, d5, d6⟩ := tb_d
  have hZ1 := va_Zof (A := fun q : Nat => s.heap.size ≤ q) (hts _ d1) (hts _ d2) ht hA
  have hZ2 := va_Zof (A := fun q : Nat => s.heap.size ≤ q) (hts _ d3) (hts _ d4) (va_eqt (hq _ fl_b.2.2.1)) hA
  have hZ3 := va_Zqof (A := fun q : Nat => s.heap.size ≤ q) (hts _ d5) (hts _ d6) (hq _ fl_b.2.2.2) hA
  obtain ⟨adK, adV, hS, hE⟩ := vk_Sof (args := #[Value.ref b]) (s := s) (N := 9) (tm := tmS) (len := jlens) (byt := jbyts) (A := fun q : Nat => s.heap.size ≤ q) (fun i hi => (fl_c i hi).2.2.2.2) (fun i hi => hq _ (fl_c i hi).1) (fun i hi => hq _ (fl_c i hi).2.1) (fun i hi => hq _ (fl_c i hi).2.2.1) (fun i hi => hq _ (fl_c i hi).2.2.2.1) (fun i hi j hj => hq _ (fl_d i hi j hj)) (fun i j hi hj hn => (fl_e i hi j hj hn).imp (fun z => hq _ z) (fun z => hq _ z)) hA
  refine ⟨(l, s.heap.size, ((fun k : Nat => if k = 0 then c0 else if k = 1 then c1 else if k = 2 then c2 else if k = 3 then c3 else if k = 4 then c4 else if k = 5 then c5 else if k = 6 then c6 else if k = 7 then c7 else if k = 8 then c8 else c9), (fun k : Nat => if k = 0 then i0 else if k = 1 then i1 else if k = 2 then i2 else if k = 3 then i3 else if k = 4 then i4 else if k = 5 then i5 else if k = 6 then i6 else if k = 7 then i7 else if k = 8 then i8 else i9)), (fun k : Nat => if k = 0 then a0 else if k = 1 then a1 else if k = 2 then a2 else if k = 3 then a3 else if k = 4 then a4 else a5), gxS t adK adV), rfl, rfl, ⟨hKc, ?_⟩, Nat.le_refl _, hZ1, hT, hZ2, hZ3, ?_, ?_, ?_, ?_⟩
  · intro k q hk
    match k, hk with
    | 0, hk => cases hk; exact ⟨x0, y0⟩
    | 1, hk => cases hk; exact ⟨x1, y1⟩
    | 2, hk => cases hk; exact ⟨x2, y2⟩
    | 3, hk => cases hk; exact ⟨x3, y3⟩
    | 4, hk => cases hk; exact ⟨x4, y4⟩
    | 5, hk => cases hk; exact ⟨x5, y5⟩
    | k + 6, hk => simp [jtys] at hk
  · refine ⟨fun i hi => ?_, fun i j hi hj hij => ?_⟩
    · show va_O "java/lang/String" (gxS t adK adV (1 + i)) _ s s.heap ∧ va_OF "java/lang/String" "coder" "B" (.int 0) (gxS t adK adV (1 + i)) _ s s.heap ∧ va_OF "java/lang/String" "value" "[B" (.ref (gxS t adK adV (10 + i))) (gxS t adK adV (1 + i)) _ s s.heap ∧ va_T .byte (gxS t adK adV (10 + i)) (jlens.getD i 0) (fun j => .int ((jbyts.getD i []).getD j 0)) _ s s.heap
      rw [gxS_k t adK adV hi, gxS_v t adK adV hi]
      exact hS.1 i hi
    · have hij2 : gxS t adK adV (1 + i) = gxS t adK adV (1 + j) := hij
      rw [gxS_k t adK adV hi, gxS_k t adK adV hj] at hij2
      exact hS.2 i j hi hj hij2
  · intro i q hk
    have hi : i < 9 := (List.getElem?_eq_some_iff.mp hk).1
    have e1 : jstr.getD i (0, "") = q := by rw [List.getD_eq_getElem?_getD, hk]; rfl
    have h1 := hts _ (tb_c i hi)
    have h2 := hE i hi
    unfold tmS at h2
    rw [e1] at h1 h2
    show vk_R RX6 q.1 q.2 (gxS t adK adV (1 + i)) s
    rw [gxS_k t adK adV hi]
    exact vk_R.of h1 h2
  · intro q hk
    exact va_Nw.of rfl (hts _ (tb_a q hk))
  · intro C hk
    exact va_AO.of (hts _ (tb_b C hk))
