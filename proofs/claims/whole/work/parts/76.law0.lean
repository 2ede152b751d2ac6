def R_law : String := "StrokesHeardLaw"
def lw_P (b : Addr) (xs : List Int32) (args : Array Value) (s : State) : Prop := args = #[.ref b] ∧ s.IntsAt b xs ∧ xs.length ≤ 3072 ∧ (Jvm.Cond.and given_1 narrow_1).before args s = true
def lw_Q (_ : Array Value) (s : State) (o : Outcome) (t : State) : Prop := o = .returned (some (.int 1)) ∧ Framed s o t [] 600000 7302250
def lw_Z (below : List Frame) (a : Array Value) (s : State) : State → Prop := fun t => ∃ o, t.status = .running ∧ Ended t below o ∧ lw_Q a s o t
/-- the law's own end, with 1 on the stack, nothing written that was there before, its room as the claim has it -/
theorem lw_ret {p : Program} {l : Launch} {e : Env} {s : State} {m : MethodId} {below : List Frame} {meth : Method} {c : Code} {b : Nat} (hx : p.tables.exec = Jvm.exec) (hb : c.code = code) (hr : meth.sig.returnType = ret) (hlocks : meth.locks = false) {pc : Nat} {H : Heap} {ls : Array Slot} (hdg : decode code pc = .ok (.ireturn, 1)) : W p l e room_1 s m #[Value.ref b] below meth c H [] 600000 7302250 (lw_Z below #[Value.ref b] s) (F0 m pc ls [.int 1]) := by
  intro T hT X
  obtain ⟨fs, hret, hrun, hended, hW, hframe⟩ := X.leave (v := some (.int 1)) (hlocks := hlocks) (fun h => by rw [hr] at h; cases h)
  have hmeth' : T.vm.method? m = some meth := X.method'
  refine ⟨T.setFrames fs, ?_, .returned (some (.int 1)), hrun, hended, rfl, ⟨_, rfl⟩, hW, hframe⟩
  jvm_step X.here [X.here.top, hx, hb, hdg, hmeth', hr, ret, narrow_b1]
  (try refine ⟨rfl, ?_⟩); (try refine ⟨rfl, ?_⟩)
  first | (intro acts; rw [hret _ acts rfl rfl rfl]) | rw [hret _ _ rfl rfl rfl]
  exact Steps.refl _
/-- what holds at the law's entry: the machine, the code, the tables' words (any of lw_tbl by 'hts w (by decide +kernel)'), the script of L ints xs at the cell b, what the Statement gives of the start (any of its parts by flat_of_before) -/
def lw_At (p : Program) (s : State) (m : MethodId) (meth : Method) (c : Code) (b L : Nat) (xs : Nat → Int32) : Prop :=
  p.tables.exec = Jvm.exec ∧ c.code = code ∧ meth.sig.returnType = ret ∧ c.maxLocals = 4 ∧ s.vm.findClass R_law = some m.cls ∧ (∀ w ∈ lw_tbl, w.before #[Value.ref b] s = true) ∧ va_X b L xs s s.heap ∧ b < s.heap.size ∧ meth.locks = false ∧ (Jvm.Cond.and given_1 narrow_1).before #[Value.ref b] s = true
/-! the law's frame over the pure world: the script lies at b, below the world -/
def LX (g : Cx) (p : Program) (s : State) (m : MethodId) (meth : Method) (c : Code) (b L : Nat) (xs : Nat → Int32) : Prop :=
  CallFix p m c cL_law 4 s #[Value.ref b] kw RL ∧ meth.sig.returnType = ret ∧ meth.locks = false ∧ GS g s ∧ va_X b L xs s s.heap ∧ b < s.heap.size ∧ gb g = s.heap.size
def LR (g : Cx) (p : Program) (e : Env) (s : State) (m : MethodId) (below : List Frame) (meth : Method) (c : Code) (b : Nat) (rk rn pc : Nat) (lv : List (Option Value)) (st : List Value) (w : Wd) : Prop :=
  ∀ (H : Heap) (locs : List Loc) (cells slots : Nat) (ls : Array Slot), Rp g w s H locs → cells + rk ≤ 600000 → slots + rn ≤ 7302250 → lv_has ls 4 (jasc 0 lv) →
    W p (gl g) e room_1 s m #[Value.ref b] below meth c H locs cells slots (lw_Z below #[Value.ref b] s) (F0 m pc ls st)
section
variable {g : Cx} {p : Program} {e : Env} {s : State} {m : MethodId} {below : List Frame} {meth : Method} {c : Code} {b L : Nat} {xs : Nat → Int32} {rk rn pc : Nat} {lv : List (Option Value)} {st : List Value} {w : Wd}
theorem jl_mono {rk' rn' : Nat} (h1 : rk' ≤ rk) (h2 : rn' ≤ rn) (K : LR g p e s m below meth c b rk' rn' pc lv st w) : LR g p e s m below meth c b rk rn pc lv st w :=
  fun H locs cells slots ls hr q1 q2 hl => K H locs cells slots ls hr (by omega) (by omega) hl
theorem jl_iconst {n : Int} (v : Int32) (hX : LX g p s m meth c b L xs) (hd : decode cL_law pc = .ok (.iconst n, 1)) (hv : Int32.ofInt n = v) (K : LR g p e s m below meth c b rk rn (pc + 1) lv (.int v :: st) w) : LR g p e s m below meth c b rk rn pc lv st w :=
  fun H locs cells slots ls hr h1 h2 hl => lv_iconst hX.1.1 hX.1.2.1 hd hv (K H locs cells slots ls hr h1 h2 hl)
theorem jl_bipush {n : Int} (v : Int32) (hX : LX g p s m meth c b L xs) (hd : decode cL_law pc = .ok (.bipush n, 2)) (hv : (Int8.ofInt n).toInt32 = v) (K : LR g p e s m below meth c b rk rn (pc + 2) lv (.int v :: st) w) : LR g p e s m below meth c b rk rn pc lv st w :=
  fun H locs cells slots ls hr h1 h2 hl => lv_bipush hX.1.1 hX.1.2.1 hd hv (K H locs cells slots ls hr h1 h2 hl)
theorem jl_iadd {x y : Int32} (hX : LX g p s m meth c b L xs) (hd : decode cL_law pc = .ok (.iadd, 1)) (K : LR g p e s m below meth c b rk rn (pc + 1) lv (.int (x + y) :: st) w) : LR g p e s m below meth c b rk rn pc lv (.int y :: .int x :: st) w :=
  fun H locs cells slots ls hr h1 h2 hl => lv_iadd hX.1.1 hX.1.2.1 hd (K H locs cells slots ls hr h1 h2 hl)
theorem jl_isub {x y : Int32} (hX : LX g p s m meth c b L xs) (hd : decode cL_law pc = .ok (.isub, 1)) (K : LR g p e s m below meth c b rk rn (pc + 1) lv (.int (x - y) :: st) w) : LR g p e s m below meth c b rk rn pc lv (.int y :: .int x :: st) w :=
  fun H locs cells slots ls hr h1 h2 hl => lv_isub hX.1.1 hX.1.2.1 hd (K H locs cells slots ls hr h1 h2 hl)
theorem jl_iand {x y : Int32} (hX : LX g p s m meth c b L xs) (hd : decode cL_law pc = .ok (.iand, 1)) (K : LR g p e s m below meth c b rk rn (pc + 1) lv (.int (x &&& y) :: st) w) : LR g p e s m below meth c b rk rn pc lv (.int y :: .int x :: st) w :=
  fun H locs cells slots ls hr h1 h2 hl => lv_iand hX.1.1 hX.1.2.1 hd (K H locs cells slots ls hr h1 h2 hl)
theorem jl_dup {v : Value} (hX : LX g p s m meth c b L xs) (hd : decode cL_law pc = .ok (.dup, 1)) (hv : v.category = 1) (K : LR g p e s m below meth c b rk rn (pc + 1) lv (v :: v :: st) w) : LR g p e s m below meth c b rk rn pc lv (v :: st) w :=
  fun H locs cells slots ls hr h1 h2 hl => lv_dup hX.1.1 hX.1.2.1 hd hv (K H locs cells slots ls hr h1 h2 hl)
theorem jl_iload_n {k : Fin 4} {x : Int32} (hX : LX g p s m meth c b L xs) (hd : decode cL_law pc = .ok (.iload_n k, 1)) (hi : lv[(k : Nat)]? = some (some (.int x))) (K : LR g p e s m below meth c b rk rn (pc + 1) lv (.int x :: st) w) : LR g p e s m below meth c b rk rn pc lv st w :=
  fun H locs cells slots ls hr h1 h2 hl => lv_iload_n hX.1.1 hX.1.2.1 hd rfl (jat hl hi) (K H locs cells slots ls hr h1 h2 hl)
theorem jl_aload_n {k : Fin 4} {x : Nat} (hX : LX g p s m meth c b L xs) (hd : decode cL_law pc = .ok (.aload_n k, 1)) (hi : lv[(k : Nat)]? = some (some (.ref x))) (K : LR g p e s m below meth c b rk rn (pc + 1) lv (.ref x :: st) w) : LR g p e s m below meth c b rk rn pc lv st w :=
  fun H locs cells slots ls hr h1 h2 hl => lv_aload_n hX.1.1 hX.1.2.1 hd rfl (jat hl hi) (K H locs cells slots ls hr h1 h2 hl)
theorem jl_istore_n {k : Fin 4} {x : Int32} (hX : LX g p s m meth c b L xs) (hd : decode cL_law pc = .ok (.istore_n k, 1)) (hn : (k : Nat) < 4) (hc : ∀ q, q + 1 = (k : Nat) → jc1 (lv.getD q none) = true) (K : LR g p e s m below meth c b rk rn (pc + 1) (lv.set (k : Nat) (some (.int x))) st w) : LR g p e s m below meth c b rk rn pc lv (.int x :: st) w :=
  fun H locs cells slots ls hr h1 h2 hl => lv_istore_n hX.1.1 hX.1.2.1 hd rfl hl hn rfl (fun ls' hl' => K H locs cells slots ls' hr h1 h2 (jstore hc hl'))
theorem jl_astore_n {k : Fin 4} {x : Nat} (hX : LX g p s m meth c b L xs) (hd : decode cL_law pc = .ok (.astore_n k, 1)) (hn : (k : Nat) < 4) (hc : ∀ q, q + 1 = (k : Nat) → jc1 (lv.getD q none) = true) (K : LR g p e s m below meth c b rk rn (pc + 1) (lv.set (k : Nat) (some (.ref x))) st w) : LR g p e s m below meth c b rk rn pc lv (.ref x :: st) w :=
  fun H locs cells slots ls hr h1 h2 hl => lv_astore_n hX.1.1 hX.1.2.1 hd rfl hl hn rfl (fun ls' hl' => K H locs cells slots ls' hr h1 h2 (jstore hc hl'))
theorem jl_iinc {k : Nat} {n : Int} {x : Int32} (v : Int32) (hX : LX g p s m meth c b L xs) (hd : decode cL_law pc = .ok (.iinc k n, 3)) (hi : lv[k]? = some (some (.int x))) (hv : x + Int32.ofInt n = v) (hn : k < 4) (hc : ∀ q, q + 1 = k → jc1 (lv.getD q none) = true) (K : LR g p e s m below meth c b rk rn (pc + 3) (lv.set k (some (.int v))) st w) : LR g p e s m below meth c b rk rn pc lv st w := by
  intro H locs cells slots ls hr h1 h2 hl
  obtain ⟨j, hj2⟩ := List.getElem?_of_mem (jasc_mem (n := 0) hi)
  rw [Nat.zero_add] at hj2
  exact lv_iinc hX.1.1 hX.1.2.1 hd hl hj2 hv hn rfl (fun ls' hl' => K H locs cells slots ls' hr h1 h2 (jstore hc hl'))
theorem jl_goto {off : Int} (tgt : Nat) (hX : LX g p s m meth c b L xs) (hd : decode cL_law pc = .ok (.goto off, 3)) (ht : (pc : Int) + off = (tgt : Int)) (K : LR g p e s m below meth c b rk rn tgt lv st w) : LR g p e s m below meth c b rk rn pc lv st w :=
  fun H locs cells slots ls hr h1 h2 hl => lv_goto hX.1.1 hX.1.2.1 hd ht (K H locs cells slots ls hr h1 h2 hl)
theorem jl_icmp_gt {x y : Int32} {off : Int} (tgt : Nat) (hX : LX g p s m meth c b L xs) (hd : decode cL_law pc = .ok (.if_icmp .gt off, 3)) (ht : (pc : Int) + off = (tgt : Int)) (KT : y < x → LR g p e s m below meth c b rk rn tgt lv st w) (KF : ¬ y < x → LR g p e s m below meth c b rk rn (pc + 3) lv st w) : LR g p e s m below meth c b rk rn pc lv (.int y :: .int x :: st) w :=
  fun H locs cells slots ls hr h1 h2 hl => lv_icmp_gt hX.1.1 hX.1.2.1 hd ht (fun q => KT q H locs cells slots ls hr h1 h2 hl) (fun q => KF q H locs cells slots ls hr h1 h2 hl)
/-- two answers, the same -/
theorem jl_same {x y : Int32} {off : Int} (tgt : Nat) (hX : LX g p s m meth c b L xs) (hd : decode cL_law pc = .ok (.if_icmp .eq off, 3)) (ht : (pc : Int) + off = (tgt : Int)) (hxy : x = y) (K : LR g p e s m below meth c b rk rn tgt lv st w) : LR g p e s m below meth c b rk rn pc lv (.int y :: .int x :: st) w :=
  fun H locs cells slots ls hr h1 h2 hl => lv_icmp_eq hX.1.1 hX.1.2.1 hd ht (fun _ => K H locs cells slots ls hr h1 h2 hl) (fun q => absurd hxy q)
theorem jl_tableIn {dflt lo hi : Int} {offs : Array Int} {len : Nat} {x : Int32} {off : Int} (tgt : Nat) (hX : LX g p s m meth c b L xs) (hd : decode cL_law pc = .ok (.tableswitch dflt lo hi offs, len)) (q1 : ¬ x.toInt < lo) (q2 : ¬ hi < x.toInt) (ho : offs[(x.toInt - lo).toNat]? = some off) (ht : (pc : Int) + off = (tgt : Int)) (K : LR g p e s m below meth c b rk rn tgt lv st w) : LR g p e s m below meth c b rk rn pc lv (.int x :: st) w :=
  fun H locs cells slots ls hr h1 h2 hl => lv_tableIn hX.1.1 hX.1.2.1 hd q1 q2 ho ht (K H locs cells slots ls hr h1 h2 hl)
theorem jl_tableOut {dflt lo hi : Int} {offs : Array Int} {len : Nat} {x : Int32} (tgt : Nat) (hX : LX g p s m meth c b L xs) (hd : decode cL_law pc = .ok (.tableswitch dflt lo hi offs, len)) (q : x.toInt < lo ∨ hi < x.toInt) (ht : (pc : Int) + dflt = (tgt : Int)) (K : LR g p e s m below meth c b rk rn tgt lv st w) : LR g p e s m below meth c b rk rn pc lv (.int x :: st) w :=
  fun H locs cells slots ls hr h1 h2 hl => lv_tableOut hX.1.1 hX.1.2.1 hd q ht (K H locs cells slots ls hr h1 h2 hl)
theorem LX.bA (hX : LX g p s m meth c b L xs) : ¬ gA g b := by
  have h1 := hX.2.2.2.2.2.1
  have h2 := hX.2.2.2.2.2.2
  intro h
  have h3 : gb g ≤ b := h
  omega
/-- an int of the script, and how many there are -/
theorem jl_sld {i : Nat} {x : Int32} (hX : LX g p s m meth c b L xs) (hL : L ≤ 3072) (hx : x = nI i) (hi : i < L) (hd : decode cL_law pc = .ok (.iaload, 1)) (K : LR g p e s m below meth c b rk rn (pc + 1) lv (.int (xs i) :: st) w) : LR g p e s m below meth c b rk rn pc lv (.int x :: .ref b :: st) w := by
  intro H locs cells slots ls hr h1 h2 hl
  subst hx
  refine va_sld hX.1.1 hX.1.2.1 hX.2.2.2.2.1 hX.2.2.2.2.2.1 hX.bA hr.2.2 (vp_in_nI hi (by omega)) hd ?_
  rw [nI_clamp (by omega)]
  exact K H locs cells slots ls hr h1 h2 hl
theorem jl_slen (hX : LX g p s m meth c b L xs) (hd : decode cL_law pc = .ok (.arraylength, 1)) (K : LR g p e s m below meth c b rk rn (pc + 1) lv (.int (nI L) :: st) w) : LR g p e s m below meth c b rk rn pc lv (.ref b :: st) w :=
  fun H locs cells slots ls hr h1 h2 hl => va_slen hX.1.1 hX.1.2.1 hX.2.2.2.2.1 hX.2.2.2.2.2.1 hX.bA hr.2.2 hd (K H locs cells slots ls hr h1 h2 hl)
/-- the law's end -/
theorem jl_end (hX : LX g p s m meth c b L xs) (hd : decode cL_law pc = .ok (.ireturn, 1)) : LR g p e s m below meth c b rk rn pc lv [.int 1] w := by
  intro H locs cells slots ls hr h1 h2 hl
  refine va_forget (fun q hq => ?_) ?_
  · rw [← hX.2.2.2.2.2.2]
    exact hr.2.2.2.2 q hq
  · refine W.widen (k := 600000) (n := 7302250) (by omega) (by omega) ?_
    exact lw_ret hX.1.1 hX.1.2.1 hX.2.1 hX.2.2.1 hd
theorem jl_after {H : Heap} {locs : List Loc} {P : Option Value → Wd → Prop} {st0 : List Value} {mc ms : Nat} {cells slots : Nat} {ls : Array Slot} {a : Array Value} (hr : Rp g w s H locs) (h1 : cells + rk ≤ 600000) (h2 : slots + rn ≤ 7302250) (hm : mc ≤ rk ∧ ms ≤ rn) (hl : lv_has ls 4 (jasc 0 lv))
    (hrun : va_Run p (gl g) e room_1 s m #[Value.ref b] below meth c H locs cells slots mc ms (F0 m pc ls st0) st (QQ g P a) (gA g)) (K : ∀ v w', P v w' → LR g p e s m below meth c b (rk - mc) (rn - ms) (pc + 3) lv (v.toList ++ st) w') :
    W p (gl g) e room_1 s m #[Value.ref b] below meth c H locs cells slots (lw_Z below #[Value.ref b] s) (F0 m pc ls st0) := by
  intro T hT X
  obtain ⟨v, st₀, t, T', L, h0, X', hL, e1, e2, ⟨⟨v', w', hv, hp, hz, hP⟩, hz2, hk⟩, stp⟩ := hrun T hT X
  cases hv
  rw [h0] at hz2 hk
  have hS : va_S (gA g) s.heap T'.heap (locs ++ L) := ⟨Nat.le_trans hr.2.2.1 (by rw [e1]; exact hz2), fun q q1 q2 => by
      rw [e1, hk q (Nat.lt_of_lt_of_le q1 hr.2.2.1) q2]
      exact hr.2.2.2.1 q q1 q2, fun q hq => by
      rcases List.mem_append.mp hq with h | h
      · exact hr.2.2.2.2 q h
      · exact hL q h⟩
  obtain ⟨t2, a1, b1⟩ := K v w' hp T'.heap (locs ++ L) (cells + mc) (slots + ms) ls ⟨by rw [e1]; exact hz, by rw [e1]; exact hP, hS⟩ (by omega) (by omega) hl T' rfl X'
  exact ⟨t2, stp t2 a1, b1⟩
theorem jl_call {y : MethodName} {cy : ByteArray} {ny : Nat} {d' mc ms idx a ci np : Nat} {As st0 : List Value} {P : Int32 → Wd → Prop} (hX : LX g p s m meth c b L xs) (hC : CI g y cy ny (some .int) d' mc ms (.ref (gb g + a) :: As) w P) (hlk : JV RL idx y cy ny (some .int) ci np) (hs : jK w a ci 0) (hst : st0 = As.reverse ++ .ref (gb g + a) :: st) (hn : As.length = np) (hdp : d' ≤ 2000) (hrm : (st.map fun v => v.category).sum ≤ 8) (hm : mc ≤ rk ∧ ms ≤ rn)
    (hd : decode cL_law pc = .ok (.invokevirtual idx, 3)) (K : ∀ r w', P r w' → LR g p e s m below meth c b (rk - mc) (rn - ms) (pc + 3) lv (.int r :: st) w') : LR g p e s m below meth c b rk rn pc lv st0 w := by
  intro H locs cells slots ls hr h1 h2 hl
  obtain ⟨k1, k2, k3, k4, k5, ⟨q, kq, kq2, hci⟩, k6, k7⟩ := hlk
  have hts := hX.1.2.2.2.2
  have he : (wl g w)[a]? = some (gb g + a, .inr (ci, jfs ci (wI w a) (fun k => jrf g (wF w a k)))) := by rw [wl_at g w hs.1, cE_obj hs hci]
  refine jl_after (st0 := st0) hr h1 h2 hm hl (va_runV (As := As) (rest := st) (C := y.cls) hX.1 hC ⟨callB_of np hts (kw_good _ _ _ _ k5) rfl rfl rfl (hts _ k4) (hts _ k1) k6 ⟨by show d' + 1 ≤ 2048; omega, by show 8 + (ny + 11) + 40 * d' ≤ 84000; omega⟩, hts _ k2, hts _ k3⟩ ⟨CC.blind (y := y), by rw [← kq2]; exact va_recv hX.2.2.2.1.1 hr.2.1 kq he, fun U hU hW => jr_pre hX.2.2.2.1 hr hU hW⟩ rfl hn hl.1 hst (lv_room hrm) hd ⟨by show cells + mc ≤ 600000; omega, by show slots + ms ≤ 7302250; omega⟩) (fun v w' hv => ?_)
  obtain ⟨r, rfl, hp⟩ := hv
  exact K r w' hp
theorem jl_callC {y : MethodName} {cy : ByteArray} {ny : Nat} {d' mc ms idx a np : Nat} {As st0 : List Value} {P : Wd → Prop} (hX : LX g p s m meth c b L xs) (hC : CV g y cy ny d' mc ms (.ref (gb g + a) :: As) w P) (hlk : Cond.methodLink RL idx y ∈ kw ∧ Cond.instanceMethod y ∈ kw ∧ Cond.initialized y.cls ∈ kw ∧ Cond.code y cy ny none ∈ kw ∧ (y.cls ≠ "java/lang/invoke/MethodHandle" ∧ y.cls ≠ "java/lang/invoke/VarHandle" ∧ (parseMethodDescriptor y.desc).map (fun d => d.parameters.length) = some np) ∧ ny ≤ 21 ∧ y.name = "<init>") (hst : st0 = As.reverse ++ .ref (gb g + a) :: st) (hn : As.length = np) (hdp : d' ≤ 2000) (hrm : (st.map fun v => v.category).sum ≤ 8) (hm : mc ≤ rk ∧ ms ≤ rn)
    (hd : decode cL_law pc = .ok (.invokespecial idx, 3)) (K : ∀ w', P w' → LR g p e s m below meth c b (rk - mc) (rn - ms) (pc + 3) lv st w') : LR g p e s m below meth c b rk rn pc lv st0 w := by
  intro H locs cells slots ls hr h1 h2 hl
  obtain ⟨k1, k2, k4, k5, k6, k7, k8⟩ := hlk
  have hts := hX.1.2.2.2.2
  refine jl_after (st0 := st0) hr h1 h2 hm hl (va_runI (As := As) (rest := st) hX.1 hC ⟨callB_of np hts (kw_good _ _ _ _ k5) rfl rfl rfl (hts _ k4) (hts _ k1) k6 ⟨by show d' + 1 ≤ 2048; omega, by show 8 + (ny + 11) + 40 * d' ≤ 84000; omega⟩, k8, hts _ k2⟩ ⟨CC.blind (y := y), fun U hU hW => jr_pre hX.2.2.2.1 hr hU hW⟩ rfl hn hl.1 hst (lv_room hrm) hd ⟨by show cells + mc ≤ 600000; omega, by show slots + ms ≤ 7302250; omega⟩) (fun v w' hv => ?_)
  obtain ⟨rfl, hp⟩ := hv
  exact K w' hp
theorem jl_new {ci idx N : Nat} {C : String} {T : u_T} {ty0 : Nat → FieldType} (hX : LX g p s m meth c b L xs) (hcl : Cond.classLink RL idx C ∈ kw) (hinst : Cond.instantiable C N ∈ kw) (hini : Cond.initialized C ∈ kw) (hu : ∀ w ∈ u_ws C T N, w ∈ kw) (hc : kcl[ci]? = some (C, T, N)) (hci : ci < 10) (hty : ∀ k, k < N → parseFieldDescriptor (T k).2.2.1 = some (ty0 k))
    (hfs : ∀ j, j < N → defaultValue (ty0 j) = vp_V (jfs ci (fun _ => 0) (fun _ => .null)) j) (hrk : 1 ≤ rk ∧ N ≤ rn) (hd : decode cL_law pc = .ok (.new idx, 3)) (K : LR g p e s m below meth c b (rk - 1) (rn - N) (pc + 3) lv (.ref (gb g + wn w) :: st) (pN w ci 0)) : LR g p e s m below meth c b rk rn pc lv st w := by
  intro H locs cells slots ls hr h1 h2 hl
  have hts := hX.1.2.2.2.2
  have hKn := hX.2.2.2.1.1.1 ci _ hc
  refine W.newcK hX.1.1 hX.1.2.1 hX.1.2.2.2.1 (hts _ hcl) (hts _ hinst) (hts _ hini) rfl hd (by show cells + 1 ≤ 600000; omega) (by show slots + N ≤ 7302250; omega) hKn.2.1 hr.1 fun H1 kC hkC e1 z1 o1 => ?_
  refine K H1 locs (cells + 1) (slots + N) ls (jr_push hr z1 o1 ?_) (by omega) (by omega) hl
  rw [cE_obj (jK_new w ci 0) hci]
  refine ⟨_, hc, (u_born ty0 hts hu hKn hkC e1 hty).to ?_⟩
  intro j hj2
  rw [hfs j hj2]
  simp only [wI_pN, wF_pN, if_true]
  rfl
/-- the law's locals in its loop; an argument out of the script -/
abbrev lvL (g : Cx) (b i : Nat) : List (Option Value) := [some (.ref b), some (.ref (gb g + 0)), some (.ref (gb g + 78)), some (.int (nI i))]
theorem jl_arg {i k : Nat} {n : Int} (hX : LX g p s m meth c b L xs) (hL : L ≤ 3072) (hi : i + 6 ≤ L) (hk : k < 6) (hn : Int32.ofInt n = nI k) (d0 : decode cL_law pc = .ok (.aload_n 0, 1)) (d1 : decode cL_law (pc + 1) = .ok (.iload_n 3, 1)) (d2 : decode cL_law (pc + 2) = .ok (.iconst n, 1)) (d3 : decode cL_law (pc + 3) = .ok (.iadd, 1)) (d4 : decode cL_law (pc + 4) = .ok (.iaload, 1))
    (K : LR g p e s m below meth c b rk rn (pc + 5) (lvL g b i) (.int (xs (i + k)) :: st) w) : LR g p e s m below meth c b rk rn pc (lvL g b i) st w := by
  refine jl_aload_n hX d0 rfl ?_
  refine jl_iload_n hX d1 rfl ?_
  refine jl_iconst (nI k) hX d2 hn ?_
  refine jl_iadd hX d3 ?_
  exact jl_sld (i := i + k) hX hL (nI_add i k) (by omega) d4 K
/-- a call on the class, its argument list complete; and one on the reference -/
theorem jl_x (hX : LX g p s m meth c b L xs) {i : Nat} (hd : decode cL_law pc = .ok (.aload_n 1, 1)) (K : LR g p e s m below meth c b rk rn (pc + 1) (lvL g b i) (.ref (gb g + 0) :: st) w) : LR g p e s m below meth c b rk rn pc (lvL g b i) st w := jl_aload_n hX hd rfl K
theorem jl_m (hX : LX g p s m meth c b L xs) {i : Nat} (hd : decode cL_law pc = .ok (.aload_n 2, 1)) (K : LR g p e s m below meth c b rk rn (pc + 1) (lvL g b i) (.ref (gb g + 78) :: st) w) : LR g p e s m below meth c b rk rn pc (lvL g b i) st w := jl_aload_n hX hd rfl K
theorem jl_switch {x : Int32} (hX : LX g p s m meth c b L xs) (K224 : x.toInt = 0 → LR g p e s m below meth c b rk rn 224 lv st w) (K267 : x.toInt = 1 → LR g p e s m below meth c b rk rn 267 lv st w) (K300 : x.toInt = 2 → LR g p e s m below meth c b rk rn 300 lv st w) (K333 : x.toInt = 3 → LR g p e s m below meth c b rk rn 333 lv st w) (K366 : x.toInt = 4 → LR g p e s m below meth c b rk rn 366 lv st w) (K409 : x.toInt = 5 → LR g p e s m below meth c b rk rn 409 lv st w) (K442 : x.toInt = 6 → LR g p e s m below meth c b rk rn 442 lv st w) (K465 : x.toInt = 7 → LR g p e s m below meth c b rk rn 465 lv st w) (K498 : x.toInt = 8 → LR g p e s m below meth c b rk rn 498 lv st w) (K521 : x.toInt = 9 → LR g p e s m below meth c b rk rn 521 lv st w) (K544 : x.toInt = 10 → LR g p e s m below meth c b rk rn 544 lv st w) (K567 : x.toInt = 11 → LR g p e s m below meth c b rk rn 567 lv st w) (K590 : x.toInt = 12 → LR g p e s m below meth c b rk rn 590 lv st w) (K613 : x.toInt = 13 → LR g p e s m below meth c b rk rn 613 lv st w) (K636 : x.toInt = 14 → LR g p e s m below meth c b rk rn 636 lv st w) (K659 : x.toInt = 15 → LR g p e s m below meth c b rk rn 659 lv st w) (K672 : x.toInt = 16 → LR g p e s m below meth c b rk rn 672 lv st w) (K705 : x.toInt = 17 → LR g p e s m below meth c b rk rn 705 lv st w) (K728 : x.toInt = 18 → LR g p e s m below meth c b rk rn 728 lv st w) (K761 : x.toInt = 19 → LR g p e s m below meth c b rk rn 761 lv st w) (K774 : x.toInt = 20 → LR g p e s m below meth c b rk rn 774 lv st w) (K807 : x.toInt = 21 → LR g p e s m below meth c b rk rn 807 lv st w) (K840 : x.toInt = 22 → LR g p e s m below meth c b rk rn 840 lv st w) (K853 : x.toInt = 23 → LR g p e s m below meth c b rk rn 853 lv st w) (K866 : x.toInt = 24 → LR g p e s m below meth c b rk rn 866 lv st w) (K889 : x.toInt = 25 → LR g p e s m below meth c b rk rn 889 lv st w) (K932 : x.toInt = 26 → LR g p e s m below meth c b rk rn 932 lv st w) (K955 : x.toInt = 27 → LR g p e s m below meth c b rk rn 955 lv st w) (K968 : x.toInt = 28 → LR g p e s m below meth c b rk rn 968 lv st w) (K1001 : x.toInt = 29 → LR g p e s m below meth c b rk rn 1001 lv st w) (K1024 : x.toInt = 30 → LR g p e s m below meth c b rk rn 1024 lv st w) (K1067 : x.toInt = 31 → LR g p e s m below meth c b rk rn 1067 lv st w) (K1110 : x.toInt = 32 → LR g p e s m below meth c b rk rn 1110 lv st w) (K1133 : x.toInt = 33 → LR g p e s m below meth c b rk rn 1133 lv st w) (K1156 : x.toInt = 34 → LR g p e s m below meth c b rk rn 1156 lv st w) (K1219 : x.toInt = 35 → LR g p e s m below meth c b rk rn 1219 lv st w) (K1262 : x.toInt = 36 → LR g p e s m below meth c b rk rn 1262 lv st w) (K1295 : x.toInt = 37 → LR g p e s m below meth c b rk rn 1295 lv st w) (K1328 : x.toInt = 38 → LR g p e s m below meth c b rk rn 1328 lv st w) (K1361 : x.toInt = 39 → LR g p e s m below meth c b rk rn 1361 lv st w) (K1384 : x.toInt = 40 → LR g p e s m below meth c b rk rn 1384 lv st w) (K1407 : x.toInt = 41 → LR g p e s m below meth c b rk rn 1407 lv st w) (K1420 : x.toInt = 42 → LR g p e s m below meth c b rk rn 1420 lv st w) (K1433 : x.toInt = 43 → LR g p e s m below meth c b rk rn 1433 lv st w) (KD : x.toInt ≠ 0 ∧ x.toInt ≠ 1 ∧ x.toInt ≠ 2 ∧ x.toInt ≠ 3 ∧ x.toInt ≠ 4 ∧ x.toInt ≠ 5 ∧ x.toInt ≠ 6 ∧ x.toInt ≠ 7 ∧ x.toInt ≠ 8 ∧ x.toInt ≠ 9 ∧ x.toInt ≠ 10 ∧ x.toInt ≠ 11 ∧ x.toInt ≠ 12 ∧ x.toInt ≠ 13 ∧ x.toInt ≠ 14 ∧ x.toInt ≠ 15 ∧ x.toInt ≠ 16 ∧ x.toInt ≠ 17 ∧ x.toInt ≠ 18 ∧ x.toInt ≠ 19 ∧ x.toInt ≠ 20 ∧ x.toInt ≠ 21 ∧ x.toInt ≠ 22 ∧ x.toInt ≠ 23 ∧ x.toInt ≠ 24 ∧ x.toInt ≠ 25 ∧ x.toInt ≠ 26 ∧ x.toInt ≠ 27 ∧ x.toInt ≠ 28 ∧ x.toInt ≠ 29 ∧ x.toInt ≠ 30 ∧ x.toInt ≠ 31 ∧ x.toInt ≠ 32 ∧ x.toInt ≠ 33 ∧ x.toInt ≠ 34 ∧ x.toInt ≠ 35 ∧ x.toInt ≠ 36 ∧ x.toInt ≠ 37 ∧ x.toInt ≠ 38 ∧ x.toInt ≠ 39 ∧ x.toInt ≠ 40 ∧ x.toInt ≠ 41 ∧ x.toInt ≠ 42 ∧ x.toInt ≠ 43 → LR g p e s m below meth c b rk rn 1456 lv st w) : LR g p e s m below meth c b rk rn 33 lv (.int x :: st) w := by
  by_cases hin : 0 ≤ x.toInt ∧ x.toInt < 0 + (44 : Nat)
  · obtain ⟨k, hk, e⟩ := rng_cases 0 44 hin.1 hin.2
    have hk2 : k = 0 ∨ k = 1 ∨ k = 2 ∨ k = 3 ∨ k = 4 ∨ k = 5 ∨ k = 6 ∨ k = 7 ∨ k = 8 ∨ k = 9 ∨ k = 10 ∨ k = 11 ∨ k = 12 ∨ k = 13 ∨ k = 14 ∨ k = 15 ∨ k = 16 ∨ k = 17 ∨ k = 18 ∨ k = 19 ∨ k = 20 ∨ k = 21 ∨ k = 22 ∨ k = 23 ∨ k = 24 ∨ k = 25 ∨ k = 26 ∨ k = 27 ∨ k = 28 ∨ k = 29 ∨ k = 30 ∨ k = 31 ∨ k = 32 ∨ k = 33 ∨ k = 34 ∨ k = 35 ∨ k = 36 ∨ k = 37 ∨ k = 38 ∨ k = 39 ∨ k = 40 ∨ k = 41 ∨ k = 42 ∨ k = 43 := by omega
    rcases hk2 with rfl | rfl | rfl | rfl | rfl | rfl | rfl | rfl | rfl | rfl | rfl | rfl | rfl | rfl | rfl | rfl | rfl | rfl | rfl | rfl | rfl | rfl | rfl | rfl | rfl | rfl | rfl | rfl | rfl | rfl | rfl | rfl | rfl | rfl | rfl | rfl | rfl | rfl | rfl | rfl | rfl | rfl | rfl | rfl
    · have e : x.toInt = 0 := by omega
      exact jl_tableIn 224 hX dL_law_33 (by omega) (by omega) (by rw [e]; rfl) (by decide) (K224 (by omega))
    · have e : x.toInt = 1 := by omega
      exact jl_tableIn 267 hX dL_law_33 (by omega) (by omega) (by rw [e]; rfl) (by decide) (K267 (by omega))
    · have e : x.toInt = 2 := by omega
      exact jl_tableIn 300 hX dL_law_33 (by omega) (by omega) (by rw [e]; rfl) (by decide) (K300 (by omega))
    · have e : x.toInt = 3 := by omega
      exact jl_tableIn 333 hX dL_law_33 (by omega) (by omega) (by rw [e]; rfl) (by decide) (K333 (by omega))
    · have e : x.toInt = 4 := by omega
      exact jl_tableIn 366 hX dL_law_33 (by omega) (by omega) (by rw [e]; rfl) (by decide) (K366 (by omega))
    · have e : x.toInt = 5 := by omega
      exact jl_tableIn 409 hX dL_law_33 (by omega) (by omega) (by rw [e]; rfl) (by decide) (K409 (by omega))
    · have e : x.toInt = 6 := by omega
      exact jl_tableIn 442 hX dL_law_33 (by omega) (by omega) (by rw [e]; rfl) (by decide) (K442 (by omega))
    · have e : x.toInt = 7 := by omega
      exact jl_tableIn 465 hX dL_law_33 (by omega) (by omega) (by rw [e]; rfl) (by decide) (K465 (by omega))
    · have e : x.toInt = 8 := by omega
      exact jl_tableIn 498 hX dL_law_33 (by omega) (by omega) (by rw [e]; rfl) (by decide) (K498 (by omega))
    · have e : x.toInt = 9 := by omega
      exact jl_tableIn 521 hX dL_law_33 (by omega) (by omega) (by rw [e]; rfl) (by decide) (K521 (by omega))
    · have e : x.toInt = 10 := by omega
      exact jl_tableIn 544 hX dL_law_33 (by omega) (by omega) (by rw [e]; rfl) (by decide) (K544 (by omega))
    · have e : x.toInt = 11 := by omega
      exact jl_tableIn 567 hX dL_law_33 (by omega) (by omega) (by rw [e]; rfl) (by decide) (K567 (by omega))
    · have e : x.toInt = 12 := by omega
      exact jl_tableIn 590 hX dL_law_33 (by omega) (by omega) (by rw [e]; rfl) (by decide) (K590 (by omega))
    · have e : x.toInt = 13 := by omega
      exact jl_tableIn 613 hX dL_law_33 (by omega) (by omega) (by rw [e]; rfl) (by decide) (K613 (by omega))
    · have e : x.toInt = 14 := by omega
      exact jl_tableIn 636 hX dL_law_33 (by omega) (by omega) (by rw [e]; rfl) (by decide) (K636 (by omega))
    · have e : x.toInt = 15 := by omega
      exact jl_tableIn 659 hX dL_law_33 (by omega) (by omega) (by rw [e]; rfl) (by decide) (K659 (by omega))
    · have e : x.toInt = 16 := by omega
      exact jl_tableIn 672 hX dL_law_33 (by omega) (by omega) (by rw [e]; rfl) (by decide) (K672 (by omega))
    · have e : x.toInt = 17 := by omega
      exact jl_tableIn 705 hX dL_law_33 (by omega) (by omega) (by rw [e]; rfl) (by decide) (K705 (by omega))
    · have e : x.toInt = 18 := by omega
      exact jl_tableIn 728 hX dL_law_33 (by omega) (by omega) (by rw [e]; rfl) (by decide) (K728 (by omega))
    · have e : x.toInt = 19 := by omega
      exact jl_tableIn 761 hX dL_law_33 (by omega) (by omega) (by rw [e]; rfl) (by decide) (K761 (by omega))
    · have e : x.toInt = 20 := by omega
      exact jl_tableIn 774 hX dL_law_33 (by omega) (by omega) (by rw [e]; rfl) (by decide) (K774 (by omega))
    · have e : x.toInt = 21 := by omega
      exact jl_tableIn 807 hX dL_law_33 (by omega) (by omega) (by rw [e]; rfl) (by decide) (K807 (by omega))
    · have e : x.toInt = 22 := by omega
      exact jl_tableIn 840 hX dL_law_33 (by omega) (by omega) (by rw [e]; rfl) (by decide) (K840 (by omega))
    · have e : x.toInt = 23 := by omega
      exact jl_tableIn 853 hX dL_law_33 (by omega) (by omega) (by rw [e]; rfl) (by decide) (K853 (by omega))
    · have e : x.toInt = 24 := by omega
      exact jl_tableIn 866 hX dL_law_33 (by omega) (by omega) (by rw [e]; rfl) (by decide) (K866 (by omega))
    · have e : x.toInt = 25 := by omega
      exact jl_tableIn 889 hX dL_law_33 (by omega) (by omega) (by rw [e]; rfl) (by decide) (K889 (by omega))
    · have e : x.toInt = 26 := by omega
      exact jl_tableIn 932 hX dL_law_33 (by omega) (by omega) (by rw [e]; rfl) (by decide) (K932 (by omega))
    · have e : x.toInt = 27 := by omega
      exact jl_tableIn 955 hX dL_law_33 (by omega) (by omega) (by rw [e]; rfl) (by decide) (K955 (by omega))
    · have e : x.toInt = 28 := by omega
      exact jl_tableIn 968 hX dL_law_33 (by omega) (by omega) (by rw [e]; rfl) (by decide) (K968 (by omega))
    · have e : x.toInt = 29 := by omega
      exact jl_tableIn 1001 hX dL_law_33 (by omega) (by omega) (by rw [e]; rfl) (by decide) (K1001 (by omega))
    · have e : x.toInt = 30 := by omega
      exact jl_tableIn 1024 hX dL_law_33 (by omega) (by omega) (by rw [e]; rfl) (by decide) (K1024 (by omega))
    · have e : x.toInt = 31 := by omega
      exact jl_tableIn 1067 hX dL_law_33 (by omega) (by omega) (by rw [e]; rfl) (by decide) (K1067 (by omega))
    · have e : x.toInt = 32 := by omega
      exact jl_tableIn 1110 hX dL_law_33 (by omega) (by omega) (by rw [e]; rfl) (by decide) (K1110 (by omega))
    · have e : x.toInt = 33 := by omega
      exact jl_tableIn 1133 hX dL_law_33 (by omega) (by omega) (by rw [e]; rfl) (by decide) (K1133 (by omega))
    · have e : x.toInt = 34 := by omega
      exact jl_tableIn 1156 hX dL_law_33 (by omega) (by omega) (by rw [e]; rfl) (by decide) (K1156 (by omega))
    · have e : x.toInt = 35 := by omega
      exact jl_tableIn 1219 hX dL_law_33 (by omega) (by omega) (by rw [e]; rfl) (by decide) (K1219 (by omega))
    · have e : x.toInt = 36 := by omega
      exact jl_tableIn 1262 hX dL_law_33 (by omega) (by omega) (by rw [e]; rfl) (by decide) (K1262 (by omega))
    · have e : x.toInt = 37 := by omega
      exact jl_tableIn 1295 hX dL_law_33 (by omega) (by omega) (by rw [e]; rfl) (by decide) (K1295 (by omega))
    · have e : x.toInt = 38 := by omega
      exact jl_tableIn 1328 hX dL_law_33 (by omega) (by omega) (by rw [e]; rfl) (by decide) (K1328 (by omega))
    · have e : x.toInt = 39 := by omega
      exact jl_tableIn 1361 hX dL_law_33 (by omega) (by omega) (by rw [e]; rfl) (by decide) (K1361 (by omega))
    · have e : x.toInt = 40 := by omega
      exact jl_tableIn 1384 hX dL_law_33 (by omega) (by omega) (by rw [e]; rfl) (by decide) (K1384 (by omega))
    · have e : x.toInt = 41 := by omega
      exact jl_tableIn 1407 hX dL_law_33 (by omega) (by omega) (by rw [e]; rfl) (by decide) (K1407 (by omega))
    · have e : x.toInt = 42 := by omega
      exact jl_tableIn 1420 hX dL_law_33 (by omega) (by omega) (by rw [e]; rfl) (by decide) (K1420 (by omega))
    · have e : x.toInt = 43 := by omega
      exact jl_tableIn 1433 hX dL_law_33 (by omega) (by omega) (by rw [e]; rfl) (by decide) (K1433 (by omega))
  · exact jl_tableOut 1456 hX dL_law_33 (by omega) (by decide) (KD (by omega))
end
