section
variable {g : Cx} {own : String} {cc : ByteArray} {nL : Nat} {ret : Option FieldType} {nm : String} {d kc ks rk rn pc : Nat} {lv : List (Option Value)} {st : List Value} {w : Wd} {Q : Option Value → Wd → Prop}
theorem jr_iadd {x y : Int32} (hd : decode cc pc = .ok (.iadd, 1))  (K : RR g own cc nL ret nm d kc ks rk rn (pc + 1) lv (.int (x + y) :: st) w Q) : RR g own cc nL ret nm d kc ks rk rn pc lv (.int y :: .int x :: st) w Q :=
  fun p e s m args below meth c H locs cells slots ls hj hr h1 h2 hl => lv_iadd hj.1.1 hj.1.2.1 hd  (K p e s m args below meth c H locs cells slots ls hj hr h1 h2 hl)
theorem jr_isub {x y : Int32} (hd : decode cc pc = .ok (.isub, 1))  (K : RR g own cc nL ret nm d kc ks rk rn (pc + 1) lv (.int (x - y) :: st) w Q) : RR g own cc nL ret nm d kc ks rk rn pc lv (.int y :: .int x :: st) w Q :=
  fun p e s m args below meth c H locs cells slots ls hj hr h1 h2 hl => lv_isub hj.1.1 hj.1.2.1 hd  (K p e s m args below meth c H locs cells slots ls hj hr h1 h2 hl)
theorem jr_imul {x y : Int32} (hd : decode cc pc = .ok (.imul, 1))  (K : RR g own cc nL ret nm d kc ks rk rn (pc + 1) lv (.int (x * y) :: st) w Q) : RR g own cc nL ret nm d kc ks rk rn pc lv (.int y :: .int x :: st) w Q :=
  fun p e s m args below meth c H locs cells slots ls hj hr h1 h2 hl => lv_imul hj.1.1 hj.1.2.1 hd  (K p e s m args below meth c H locs cells slots ls hj hr h1 h2 hl)
theorem jr_iand {x y : Int32} (hd : decode cc pc = .ok (.iand, 1))  (K : RR g own cc nL ret nm d kc ks rk rn (pc + 1) lv (.int (x &&& y) :: st) w Q) : RR g own cc nL ret nm d kc ks rk rn pc lv (.int y :: .int x :: st) w Q :=
  fun p e s m args below meth c H locs cells slots ls hj hr h1 h2 hl => lv_iand hj.1.1 hj.1.2.1 hd  (K p e s m args below meth c H locs cells slots ls hj hr h1 h2 hl)
theorem jr_ior {x y : Int32} (hd : decode cc pc = .ok (.ior, 1))  (K : RR g own cc nL ret nm d kc ks rk rn (pc + 1) lv (.int (x ||| y) :: st) w Q) : RR g own cc nL ret nm d kc ks rk rn pc lv (.int y :: .int x :: st) w Q :=
  fun p e s m args below meth c H locs cells slots ls hj hr h1 h2 hl => lv_ior hj.1.1 hj.1.2.1 hd  (K p e s m args below meth c H locs cells slots ls hj hr h1 h2 hl)
theorem jr_ixor {x y : Int32} (hd : decode cc pc = .ok (.ixor, 1))  (K : RR g own cc nL ret nm d kc ks rk rn (pc + 1) lv (.int (x ^^^ y) :: st) w Q) : RR g own cc nL ret nm d kc ks rk rn pc lv (.int y :: .int x :: st) w Q :=
  fun p e s m args below meth c H locs cells slots ls hj hr h1 h2 hl => lv_ixor hj.1.1 hj.1.2.1 hd  (K p e s m args below meth c H locs cells slots ls hj hr h1 h2 hl)
theorem jr_ishl {x y : Int32} (hd : decode cc pc = .ok (.ishl, 1))  (K : RR g own cc nL ret nm d kc ks rk rn (pc + 1) lv (.int (x <<< (y &&& 31)) :: st) w Q) : RR g own cc nL ret nm d kc ks rk rn pc lv (.int y :: .int x :: st) w Q :=
  fun p e s m args below meth c H locs cells slots ls hj hr h1 h2 hl => lv_ishl hj.1.1 hj.1.2.1 hd  (K p e s m args below meth c H locs cells slots ls hj hr h1 h2 hl)
theorem jr_ishr {x y : Int32} (hd : decode cc pc = .ok (.ishr, 1))  (K : RR g own cc nL ret nm d kc ks rk rn (pc + 1) lv (.int (x >>> (y &&& 31)) :: st) w Q) : RR g own cc nL ret nm d kc ks rk rn pc lv (.int y :: .int x :: st) w Q :=
  fun p e s m args below meth c H locs cells slots ls hj hr h1 h2 hl => lv_ishr hj.1.1 hj.1.2.1 hd  (K p e s m args below meth c H locs cells slots ls hj hr h1 h2 hl)
theorem jr_idiv {x y : Int32} (hd : decode cc pc = .ok (.idiv, 1)) (hne : ¬ y = 0) (K : RR g own cc nL ret nm d kc ks rk rn (pc + 1) lv (.int (x / y) :: st) w Q) : RR g own cc nL ret nm d kc ks rk rn pc lv (.int y :: .int x :: st) w Q :=
  fun p e s m args below meth c H locs cells slots ls hj hr h1 h2 hl => lv_idiv hj.1.1 hj.1.2.1 hd hne (K p e s m args below meth c H locs cells slots ls hj hr h1 h2 hl)
theorem jr_irem {x y : Int32} (hd : decode cc pc = .ok (.irem, 1)) (hne : ¬ y = 0) (K : RR g own cc nL ret nm d kc ks rk rn (pc + 1) lv (.int (x - x / y * y) :: st) w Q) : RR g own cc nL ret nm d kc ks rk rn pc lv (.int y :: .int x :: st) w Q :=
  fun p e s m args below meth c H locs cells slots ls hj hr h1 h2 hl => lv_irem hj.1.1 hj.1.2.1 hd hne (K p e s m args below meth c H locs cells slots ls hj hr h1 h2 hl)
theorem jr_iushr {x y : Int32} (hd : decode cc pc = .ok (.iushr, 1))  (K : RR g own cc nL ret nm d kc ks rk rn (pc + 1) lv (.int (x.toUInt32 >>> (y.toUInt32 &&& Int32.toUInt32 31)).toInt32 :: st) w Q) : RR g own cc nL ret nm d kc ks rk rn pc lv (.int y :: .int x :: st) w Q :=
  fun p e s m args below meth c H locs cells slots ls hj hr h1 h2 hl => lv_iushr hj.1.1 hj.1.2.1 hd rfl (K p e s m args below meth c H locs cells slots ls hj hr h1 h2 hl)
theorem jr_ineg {x : Int32} (hd : decode cc pc = .ok (.ineg, 1))  (K : RR g own cc nL ret nm d kc ks rk rn (pc + 1) lv (.int (-x) :: st) w Q) : RR g own cc nL ret nm d kc ks rk rn pc lv (.int x :: st) w Q :=
  fun p e s m args below meth c H locs cells slots ls hj hr h1 h2 hl => lv_ineg hj.1.1 hj.1.2.1 hd  (K p e s m args below meth c H locs cells slots ls hj hr h1 h2 hl)
theorem jr_i2l {x : Int32} (hd : decode cc pc = .ok (.i2l, 1))  (K : RR g own cc nL ret nm d kc ks rk rn (pc + 1) lv (.long x.toInt64 :: st) w Q) : RR g own cc nL ret nm d kc ks rk rn pc lv (.int x :: st) w Q :=
  fun p e s m args below meth c H locs cells slots ls hj hr h1 h2 hl => lv_i2l hj.1.1 hj.1.2.1 hd rfl (K p e s m args below meth c H locs cells slots ls hj hr h1 h2 hl)
theorem jr_i2b {x : Int32} (hd : decode cc pc = .ok (.i2b, 1))  (K : RR g own cc nL ret nm d kc ks rk rn (pc + 1) lv (.int x.toInt8.toInt32 :: st) w Q) : RR g own cc nL ret nm d kc ks rk rn pc lv (.int x :: st) w Q :=
  fun p e s m args below meth c H locs cells slots ls hj hr h1 h2 hl => lv_i2b hj.1.1 hj.1.2.1 hd rfl (K p e s m args below meth c H locs cells slots ls hj hr h1 h2 hl)
theorem jr_i2s {x : Int32} (hd : decode cc pc = .ok (.i2s, 1))  (K : RR g own cc nL ret nm d kc ks rk rn (pc + 1) lv (.int x.toInt16.toInt32 :: st) w Q) : RR g own cc nL ret nm d kc ks rk rn pc lv (.int x :: st) w Q :=
  fun p e s m args below meth c H locs cells slots ls hj hr h1 h2 hl => lv_i2s hj.1.1 hj.1.2.1 hd rfl (K p e s m args below meth c H locs cells slots ls hj hr h1 h2 hl)
theorem jr_i2c {x : Int32} (hd : decode cc pc = .ok (.i2c, 1))  (K : RR g own cc nL ret nm d kc ks rk rn (pc + 1) lv (.int (x.toUInt32 % 65536).toInt32 :: st) w Q) : RR g own cc nL ret nm d kc ks rk rn pc lv (.int x :: st) w Q :=
  fun p e s m args below meth c H locs cells slots ls hj hr h1 h2 hl => lv_i2c hj.1.1 hj.1.2.1 hd rfl (K p e s m args below meth c H locs cells slots ls hj hr h1 h2 hl)
theorem jr_ladd {x y : Int64} (hd : decode cc pc = .ok (.ladd, 1))  (K : RR g own cc nL ret nm d kc ks rk rn (pc + 1) lv (.long (x + y) :: st) w Q) : RR g own cc nL ret nm d kc ks rk rn pc lv (.long y :: .long x :: st) w Q :=
  fun p e s m args below meth c H locs cells slots ls hj hr h1 h2 hl => lv_ladd hj.1.1 hj.1.2.1 hd  (K p e s m args below meth c H locs cells slots ls hj hr h1 h2 hl)
theorem jr_lcmp {x y : Int64} (hd : decode cc pc = .ok (.lcmp, 1))  (K : RR g own cc nL ret nm d kc ks rk rn (pc + 1) lv (.int (lg_cmp x y) :: st) w Q) : RR g own cc nL ret nm d kc ks rk rn pc lv (.long y :: .long x :: st) w Q :=
  fun p e s m args below meth c H locs cells slots ls hj hr h1 h2 hl => W.lcmp hj.1.1 hj.1.2.1 hd  (K p e s m args below meth c H locs cells slots ls hj hr h1 h2 hl)
theorem jr_dup {v : Value} (hd : decode cc pc = .ok (.dup, 1)) (hv : v.category = 1) (K : RR g own cc nL ret nm d kc ks rk rn (pc + 1) lv (v :: v :: st) w Q) : RR g own cc nL ret nm d kc ks rk rn pc lv (v :: st) w Q :=
  fun p e s m args below meth c H locs cells slots ls hj hr h1 h2 hl => lv_dup hj.1.1 hj.1.2.1 hd hv (K p e s m args below meth c H locs cells slots ls hj hr h1 h2 hl)
theorem jr_pop {v : Value} (hd : decode cc pc = .ok (.pop, 1)) (hv : v.category = 1) (K : RR g own cc nL ret nm d kc ks rk rn (pc + 1) lv st w Q) : RR g own cc nL ret nm d kc ks rk rn pc lv (v :: st) w Q :=
  fun p e s m args below meth c H locs cells slots ls hj hr h1 h2 hl => lv_pop hj.1.1 hj.1.2.1 hd hv (K p e s m args below meth c H locs cells slots ls hj hr h1 h2 hl)
theorem jr_dup2 {v u : Value} (hd : decode cc pc = .ok (.dup2, 1)) (hv : v.category = 1) (hu : u.category = 1) (K : RR g own cc nL ret nm d kc ks rk rn (pc + 1) lv (v :: u :: v :: u :: st) w Q) : RR g own cc nL ret nm d kc ks rk rn pc lv (v :: u :: st) w Q :=
  fun p e s m args below meth c H locs cells slots ls hj hr h1 h2 hl => lv_dup2_11 hj.1.1 hj.1.2.1 hd hv hu (K p e s m args below meth c H locs cells slots ls hj hr h1 h2 hl)
theorem jr_null  (hd : decode cc pc = .ok (.aconst_null, 1))  (K : RR g own cc nL ret nm d kc ks rk rn (pc + 1) lv (.null :: st) w Q) : RR g own cc nL ret nm d kc ks rk rn pc lv st w Q :=
  fun p e s m args below meth c H locs cells slots ls hj hr h1 h2 hl => lv_null hj.1.1 hj.1.2.1 hd  (K p e s m args below meth c H locs cells slots ls hj hr h1 h2 hl)
theorem jr_iconst {n : Int} (v : Int32) (hd : decode cc pc = .ok (.iconst n, 1)) (hv : Int32.ofInt n = v) (K : RR g own cc nL ret nm d kc ks rk rn (pc + 1) lv (.int v :: st) w Q) : RR g own cc nL ret nm d kc ks rk rn pc lv st w Q :=
  fun p e s m args below meth c H locs cells slots ls hj hr h1 h2 hl => lv_iconst hj.1.1 hj.1.2.1 hd hv (K p e s m args below meth c H locs cells slots ls hj hr h1 h2 hl)
theorem jr_bipush {n : Int} (v : Int32) (hd : decode cc pc = .ok (.bipush n, 2)) (hv : (Int8.ofInt n).toInt32 = v) (K : RR g own cc nL ret nm d kc ks rk rn (pc + 2) lv (.int v :: st) w Q) : RR g own cc nL ret nm d kc ks rk rn pc lv st w Q :=
  fun p e s m args below meth c H locs cells slots ls hj hr h1 h2 hl => lv_bipush hj.1.1 hj.1.2.1 hd hv (K p e s m args below meth c H locs cells slots ls hj hr h1 h2 hl)
theorem jr_sipush {n : Int} (v : Int32) (hd : decode cc pc = .ok (.sipush n, 3)) (hv : (Int16.ofInt n).toInt32 = v) (K : RR g own cc nL ret nm d kc ks rk rn (pc + 3) lv (.int v :: st) w Q) : RR g own cc nL ret nm d kc ks rk rn pc lv st w Q :=
  fun p e s m args below meth c H locs cells slots ls hj hr h1 h2 hl => lv_sipush hj.1.1 hj.1.2.1 hd hv (K p e s m args below meth c H locs cells slots ls hj hr h1 h2 hl)
theorem jr_lconst {n : Fin 2} (v : Int64) (hd : decode cc pc = .ok (.lconst n, 1)) (hv : Int64.ofNat (n : Nat) = v) (K : RR g own cc nL ret nm d kc ks rk rn (pc + 1) lv (.long v :: st) w Q) : RR g own cc nL ret nm d kc ks rk rn pc lv st w Q :=
  fun p e s m args below meth c H locs cells slots ls hj hr h1 h2 hl => lv_lconst hj.1.1 hj.1.2.1 hd hv (K p e s m args below meth c H locs cells slots ls hj hr h1 h2 hl)
theorem jr_iload_n {k : Fin 4} {x : Int32} (hd : decode cc pc = .ok (.iload_n k, 1)) (hi : lv[(k : Nat)]? = some (some (.int x))) (K : RR g own cc nL ret nm d kc ks rk rn (pc + 1) lv (.int x :: st) w Q) : RR g own cc nL ret nm d kc ks rk rn pc lv st w Q :=
  fun p e s m args below meth c H locs cells slots ls hj hr h1 h2 hl => lv_iload_n hj.1.1 hj.1.2.1 hd rfl (jat hl hi) (K p e s m args below meth c H locs cells slots ls hj hr h1 h2 hl)
theorem jr_iload {k : Nat} {x : Int32} (hd : decode cc pc = .ok (.iload k, 2)) (hi : lv[k]? = some (some (.int x))) (K : RR g own cc nL ret nm d kc ks rk rn (pc + 2) lv (.int x :: st) w Q) : RR g own cc nL ret nm d kc ks rk rn pc lv st w Q :=
  fun p e s m args below meth c H locs cells slots ls hj hr h1 h2 hl => lv_iload hj.1.1 hj.1.2.1 hd (jat hl hi) (K p e s m args below meth c H locs cells slots ls hj hr h1 h2 hl)
theorem jr_lload_n {k : Fin 4} {x : Int64} (hd : decode cc pc = .ok (.lload_n k, 1)) (hi : lv[(k : Nat)]? = some (some (.long x))) (K : RR g own cc nL ret nm d kc ks rk rn (pc + 1) lv (.long x :: st) w Q) : RR g own cc nL ret nm d kc ks rk rn pc lv st w Q :=
  fun p e s m args below meth c H locs cells slots ls hj hr h1 h2 hl => lv_lload_n hj.1.1 hj.1.2.1 hd rfl (jat hl hi) (K p e s m args below meth c H locs cells slots ls hj hr h1 h2 hl)
theorem jr_lload {k : Nat} {x : Int64} (hd : decode cc pc = .ok (.lload k, 2)) (hi : lv[k]? = some (some (.long x))) (K : RR g own cc nL ret nm d kc ks rk rn (pc + 2) lv (.long x :: st) w Q) : RR g own cc nL ret nm d kc ks rk rn pc lv st w Q :=
  fun p e s m args below meth c H locs cells slots ls hj hr h1 h2 hl => lv_lload hj.1.1 hj.1.2.1 hd (jat hl hi) (K p e s m args below meth c H locs cells slots ls hj hr h1 h2 hl)
theorem jr_aload_n {k : Fin 4} {x : Nat} (hd : decode cc pc = .ok (.aload_n k, 1)) (hi : lv[(k : Nat)]? = some (some (.ref x))) (K : RR g own cc nL ret nm d kc ks rk rn (pc + 1) lv (.ref x :: st) w Q) : RR g own cc nL ret nm d kc ks rk rn pc lv st w Q :=
  fun p e s m args below meth c H locs cells slots ls hj hr h1 h2 hl => lv_aload_n hj.1.1 hj.1.2.1 hd rfl (jat hl hi) (K p e s m args below meth c H locs cells slots ls hj hr h1 h2 hl)
theorem jr_aload {k : Nat} {x : Nat} (hd : decode cc pc = .ok (.aload k, 2)) (hi : lv[k]? = some (some (.ref x))) (K : RR g own cc nL ret nm d kc ks rk rn (pc + 2) lv (.ref x :: st) w Q) : RR g own cc nL ret nm d kc ks rk rn pc lv st w Q :=
  fun p e s m args below meth c H locs cells slots ls hj hr h1 h2 hl => lv_aload hj.1.1 hj.1.2.1 hd (jat hl hi) (K p e s m args below meth c H locs cells slots ls hj hr h1 h2 hl)
theorem jr_aloadN_n {k : Fin 4} (hd : decode cc pc = .ok (.aload_n k, 1)) (hi : lv[(k : Nat)]? = some (some .null)) (K : RR g own cc nL ret nm d kc ks rk rn (pc + 1) lv (.null :: st) w Q) : RR g own cc nL ret nm d kc ks rk rn pc lv st w Q :=
  fun p e s m args below meth c H locs cells slots ls hj hr h1 h2 hl => lv_aload_nN hj.1.1 hj.1.2.1 hd rfl (jat hl hi) (K p e s m args below meth c H locs cells slots ls hj hr h1 h2 hl)
theorem jr_istore_ng {k : Fin 4} {x : Int32} (hd : decode cc pc = .ok (.istore_n k, 1)) (hn : (k : Nat) < nL) (hc : ∀ q, q + 1 = (k : Nat) → jc1 (lv.getD q none) = true) (K : RR g own cc nL ret nm d kc ks rk rn (pc + 1) (lv.set (k : Nat) (some (.int x))) st w Q) : RR g own cc nL ret nm d kc ks rk rn pc lv (.int x :: st) w Q :=
  fun p e s m args below meth c H locs cells slots ls hj hr h1 h2 hl => lv_istore_n hj.1.1 hj.1.2.1 hd rfl hl hn rfl (fun ls' hl' => K p e s m args below meth c H locs cells slots ls' hj hr h1 h2 (jstore hc hl'))
theorem jr_istore_g {k : Nat} {x : Int32} (hd : decode cc pc = .ok (.istore k, 2)) (hn : k < nL) (hc : ∀ q, q + 1 = k → jc1 (lv.getD q none) = true) (K : RR g own cc nL ret nm d kc ks rk rn (pc + 2) (lv.set k (some (.int x))) st w Q) : RR g own cc nL ret nm d kc ks rk rn pc lv (.int x :: st) w Q :=
  fun p e s m args below meth c H locs cells slots ls hj hr h1 h2 hl => lv_istore hj.1.1 hj.1.2.1 hd hl hn rfl (fun ls' hl' => K p e s m args below meth c H locs cells slots ls' hj hr h1 h2 (jstore hc hl'))
theorem jr_astore_ng {k : Fin 4} {x : Nat} (hd : decode cc pc = .ok (.astore_n k, 1)) (hn : (k : Nat) < nL) (hc : ∀ q, q + 1 = (k : Nat) → jc1 (lv.getD q none) = true) (K : RR g own cc nL ret nm d kc ks rk rn (pc + 1) (lv.set (k : Nat) (some (.ref x))) st w Q) : RR g own cc nL ret nm d kc ks rk rn pc lv (.ref x :: st) w Q :=
  fun p e s m args below meth c H locs cells slots ls hj hr h1 h2 hl => lv_astore_n hj.1.1 hj.1.2.1 hd rfl hl hn rfl (fun ls' hl' => K p e s m args below meth c H locs cells slots ls' hj hr h1 h2 (jstore hc hl'))
theorem jr_astore_g {k : Nat} {x : Nat} (hd : decode cc pc = .ok (.astore k, 2)) (hn : k < nL) (hc : ∀ q, q + 1 = k → jc1 (lv.getD q none) = true) (K : RR g own cc nL ret nm d kc ks rk rn (pc + 2) (lv.set k (some (.ref x))) st w Q) : RR g own cc nL ret nm d kc ks rk rn pc lv (.ref x :: st) w Q :=
  fun p e s m args below meth c H locs cells slots ls hj hr h1 h2 hl => lv_astore hj.1.1 hj.1.2.1 hd hl hn rfl (fun ls' hl' => K p e s m args below meth c H locs cells slots ls' hj hr h1 h2 (jstore hc hl'))
theorem jr_astoreN_ng {k : Fin 4} (hd : decode cc pc = .ok (.astore_n k, 1)) (hn : (k : Nat) < nL) (hc : ∀ q, q + 1 = (k : Nat) → jc1 (lv.getD q none) = true) (K : RR g own cc nL ret nm d kc ks rk rn (pc + 1) (lv.set (k : Nat) (some .null)) st w Q) : RR g own cc nL ret nm d kc ks rk rn pc lv (.null :: st) w Q :=
  fun p e s m args below meth c H locs cells slots ls hj hr h1 h2 hl => lv_astore_nN hj.1.1 hj.1.2.1 hd rfl hl hn rfl (fun ls' hl' => K p e s m args below meth c H locs cells slots ls' hj hr h1 h2 (jstore hc hl'))
theorem jr_iinc_g {k : Nat} {n : Int} {x : Int32} (v : Int32) (hd : decode cc pc = .ok (.iinc k n, 3)) (hi : lv[k]? = some (some (.int x))) (hv : x + Int32.ofInt n = v) (hn : k < nL) (hc : ∀ q, q + 1 = k → jc1 (lv.getD q none) = true) (K : RR g own cc nL ret nm d kc ks rk rn (pc + 3) (lv.set k (some (.int v))) st w Q) : RR g own cc nL ret nm d kc ks rk rn pc lv st w Q := by
  intro p e s m args below meth c H locs cells slots ls hj hr h1 h2 hl
  obtain ⟨j, hj2⟩ := List.getElem?_of_mem (jasc_mem (n := 0) hi)
  rw [Nat.zero_add] at hj2
  exact lv_iinc hj.1.1 hj.1.2.1 hd hl hj2 hv hn rfl (fun ls' hl' => K p e s m args below meth c H locs cells slots ls' hj hr h1 h2 (jstore hc hl'))
theorem jr_istore_0 {x : Int32} {a0 : Option Value} {l : List (Option Value)} (hd : decode cc pc = .ok (.istore_n 0, 1)) (hn : 0 < nL) (K : RR g own cc nL ret nm d kc ks rk rn (pc + 1) (some (.int x) :: l) st w Q) : RR g own cc nL ret nm d kc ks rk rn pc (a0 :: l) (.int x :: st) w Q :=
  jr_istore_ng (k := (0 : Fin 4)) hd hn (fun q e => absurd e (Nat.succ_ne_zero q)) K
theorem jr_astore_0 {x : Nat} {a0 : Option Value} {l : List (Option Value)} (hd : decode cc pc = .ok (.astore_n 0, 1)) (hn : 0 < nL) (K : RR g own cc nL ret nm d kc ks rk rn (pc + 1) (some (.ref x) :: l) st w Q) : RR g own cc nL ret nm d kc ks rk rn pc (a0 :: l) (.ref x :: st) w Q :=
  jr_astore_ng (k := (0 : Fin 4)) hd hn (fun q e => absurd e (Nat.succ_ne_zero q)) K
theorem jr_astoreN_0 {a0 : Option Value} {l : List (Option Value)} (hd : decode cc pc = .ok (.astore_n 0, 1)) (hn : 0 < nL) (K : RR g own cc nL ret nm d kc ks rk rn (pc + 1) (some .null :: l) st w Q) : RR g own cc nL ret nm d kc ks rk rn pc (a0 :: l) (.null :: st) w Q :=
  jr_astoreN_ng (k := (0 : Fin 4)) hd hn (fun q e => absurd e (Nat.succ_ne_zero q)) K
theorem jr_iinc_0 {n : Int} {x : Int32} {l : List (Option Value)} (v : Int32) (hd : decode cc pc = .ok (.iinc 0 n, 3)) (hv : x + Int32.ofInt n = v) (hn : 0 < nL) (K : RR g own cc nL ret nm d kc ks rk rn (pc + 3) (some (.int v) :: l) st w Q) : RR g own cc nL ret nm d kc ks rk rn pc (some (.int x) :: l) st w Q :=
  jr_iinc_g (k := 0) v hd rfl hv hn (fun q e => absurd e (Nat.succ_ne_zero q)) K
theorem jr_istore_1 {x : Int32} {a0 a1 : Option Value} {l : List (Option Value)} (hd : decode cc pc = .ok (.istore_n 1, 1)) (hn : 1 < nL) (hc : jc1 a0 = true) (K : RR g own cc nL ret nm d kc ks rk rn (pc + 1) (a0 :: some (.int x) :: l) st w Q) : RR g own cc nL ret nm d kc ks rk rn pc (a0 :: a1 :: l) (.int x :: st) w Q :=
  jr_istore_ng (k := (1 : Fin 4)) hd hn (fun q e => by cases e; exact hc) K
theorem jr_astore_1 {x : Nat} {a0 a1 : Option Value} {l : List (Option Value)} (hd : decode cc pc = .ok (.astore_n 1, 1)) (hn : 1 < nL) (hc : jc1 a0 = true) (K : RR g own cc nL ret nm d kc ks rk rn (pc + 1) (a0 :: some (.ref x) :: l) st w Q) : RR g own cc nL ret nm d kc ks rk rn pc (a0 :: a1 :: l) (.ref x :: st) w Q :=
  jr_astore_ng (k := (1 : Fin 4)) hd hn (fun q e => by cases e; exact hc) K
theorem jr_astoreN_1 {a0 a1 : Option Value} {l : List (Option Value)} (hd : decode cc pc = .ok (.astore_n 1, 1)) (hn : 1 < nL) (hc : jc1 a0 = true) (K : RR g own cc nL ret nm d kc ks rk rn (pc + 1) (a0 :: some .null :: l) st w Q) : RR g own cc nL ret nm d kc ks rk rn pc (a0 :: a1 :: l) (.null :: st) w Q :=
  jr_astoreN_ng (k := (1 : Fin 4)) hd hn (fun q e => by cases e; exact hc) K
theorem jr_iinc_1 {n : Int} {x : Int32} {a0 : Option Value} {l : List (Option Value)} (v : Int32) (hd : decode cc pc = .ok (.iinc 1 n, 3)) (hv : x + Int32.ofInt n = v) (hn : 1 < nL) (hc : jc1 a0 = true) (K : RR g own cc nL ret nm d kc ks rk rn (pc + 3) (a0 :: some (.int v) :: l) st w Q) : RR g own cc nL ret nm d kc ks rk rn pc (a0 :: some (.int x) :: l) st w Q :=
  jr_iinc_g (k := 1) v hd rfl hv hn (fun q e => by cases e; exact hc) K
theorem jr_istore_2 {x : Int32} {a0 a1 a2 : Option Value} {l : List (Option Value)} (hd : decode cc pc = .ok (.istore_n 2, 1)) (hn : 2 < nL) (hc : jc1 a1 = true) (K : RR g own cc nL ret nm d kc ks rk rn (pc + 1) (a0 :: a1 :: some (.int x) :: l) st w Q) : RR g own cc nL ret nm d kc ks rk rn pc (a0 :: a1 :: a2 :: l) (.int x :: st) w Q :=
  jr_istore_ng (k := (2 : Fin 4)) hd hn (fun q e => by cases e; exact hc) K
theorem jr_astore_2 {x : Nat} {a0 a1 a2 : Option Value} {l : List (Option Value)} (hd : decode cc pc = .ok (.astore_n 2, 1)) (hn : 2 < nL) (hc : jc1 a1 = true) (K : RR g own cc nL ret nm d kc ks rk rn (pc + 1) (a0 :: a1 :: some (.ref x) :: l) st w Q) : RR g own cc nL ret nm d kc ks rk rn pc (a0 :: a1 :: a2 :: l) (.ref x :: st) w Q :=
  jr_astore_ng (k := (2 : Fin 4)) hd hn (fun q e => by cases e; exact hc) K
theorem jr_astoreN_2 {a0 a1 a2 : Option Value} {l : List (Option Value)} (hd : decode cc pc = .ok (.astore_n 2, 1)) (hn : 2 < nL) (hc : jc1 a1 = true) (K : RR g own cc nL ret nm d kc ks rk rn (pc + 1) (a0 :: a1 :: some .null :: l) st w Q) : RR g own cc nL ret nm d kc ks rk rn pc (a0 :: a1 :: a2 :: l) (.null :: st) w Q :=
  jr_astoreN_ng (k := (2 : Fin 4)) hd hn (fun q e => by cases e; exact hc) K
theorem jr_iinc_2 {n : Int} {x : Int32} {a0 a1 : Option Value} {l : List (Option Value)} (v : Int32) (hd : decode cc pc = .ok (.iinc 2 n, 3)) (hv : x + Int32.ofInt n = v) (hn : 2 < nL) (hc : jc1 a1 = true) (K : RR g own cc nL ret nm d kc ks rk rn (pc + 3) (a0 :: a1 :: some (.int v) :: l) st w Q) : RR g own cc nL ret nm d kc ks rk rn pc (a0 :: a1 :: some (.int x) :: l) st w Q :=
  jr_iinc_g (k := 2) v hd rfl hv hn (fun q e => by cases e; exact hc) K
theorem jr_istore_3 {x : Int32} {a0 a1 a2 a3 : Option Value} {l : List (Option Value)} (hd : decode cc pc = .ok (.istore_n 3, 1)) (hn : 3 < nL) (hc : jc1 a2 = true) (K : RR g own cc nL ret nm d kc ks rk rn (pc + 1) (a0 :: a1 :: a2 :: some (.int x) :: l) st w Q) : RR g own cc nL ret nm d kc ks rk rn pc (a0 :: a1 :: a2 :: a3 :: l) (.int x :: st) w Q :=
  jr_istore_ng (k := (3 : Fin 4)) hd hn (fun q e => by cases e; exact hc) K
theorem jr_astore_3 {x : Nat} {a0 a1 a2 a3 : Option Value} {l : List (Option Value)} (hd : decode cc pc = .ok (.astore_n 3, 1)) (hn : 3 < nL) (hc : jc1 a2 = true) (K : RR g own cc nL ret nm d kc ks rk rn (pc + 1) (a0 :: a1 :: a2 :: some (.ref x) :: l) st w Q) : RR g own cc nL ret nm d kc ks rk rn pc (a0 :: a1 :: a2 :: a3 :: l) (.ref x :: st) w Q :=
  jr_astore_ng (k := (3 : Fin 4)) hd hn (fun q e => by cases e; exact hc) K
theorem jr_astoreN_3 {a0 a1 a2 a3 : Option Value} {l : List (Option Value)} (hd : decode cc pc = .ok (.astore_n 3, 1)) (hn : 3 < nL) (hc : jc1 a2 = true) (K : RR g own cc nL ret nm d kc ks rk rn (pc + 1) (a0 :: a1 :: a2 :: some .null :: l) st w Q) : RR g own cc nL ret nm d kc ks rk rn pc (a0 :: a1 :: a2 :: a3 :: l) (.null :: st) w Q :=
  jr_astoreN_ng (k := (3 : Fin 4)) hd hn (fun q e => by cases e; exact hc) K
theorem jr_iinc_3 {n : Int} {x : Int32} {a0 a1 a2 : Option Value} {l : List (Option Value)} (v : Int32) (hd : decode cc pc = .ok (.iinc 3 n, 3)) (hv : x + Int32.ofInt n = v) (hn : 3 < nL) (hc : jc1 a2 = true) (K : RR g own cc nL ret nm d kc ks rk rn (pc + 3) (a0 :: a1 :: a2 :: some (.int v) :: l) st w Q) : RR g own cc nL ret nm d kc ks rk rn pc (a0 :: a1 :: a2 :: some (.int x) :: l) st w Q :=
  jr_iinc_g (k := 3) v hd rfl hv hn (fun q e => by cases e; exact hc) K
theorem jr_istore_4 {x : Int32} {a0 a1 a2 a3 a4 : Option Value} {l : List (Option Value)} (hd : decode cc pc = .ok (.istore 4, 2)) (hn : 4 < nL) (hc : jc1 a3 = true) (K : RR g own cc nL ret nm d kc ks rk rn (pc + 2) (a0 :: a1 :: a2 :: a3 :: some (.int x) :: l) st w Q) : RR g own cc nL ret nm d kc ks rk rn pc (a0 :: a1 :: a2 :: a3 :: a4 :: l) (.int x :: st) w Q :=
  jr_istore_g (k := 4) hd hn (fun q e => by cases e; exact hc) K
theorem jr_astore_4 {x : Nat} {a0 a1 a2 a3 a4 : Option Value} {l : List (Option Value)} (hd : decode cc pc = .ok (.astore 4, 2)) (hn : 4 < nL) (hc : jc1 a3 = true) (K : RR g own cc nL ret nm d kc ks rk rn (pc + 2) (a0 :: a1 :: a2 :: a3 :: some (.ref x) :: l) st w Q) : RR g own cc nL ret nm d kc ks rk rn pc (a0 :: a1 :: a2 :: a3 :: a4 :: l) (.ref x :: st) w Q :=
  jr_astore_g (k := 4) hd hn (fun q e => by cases e; exact hc) K
theorem jr_iinc_4 {n : Int} {x : Int32} {a0 a1 a2 a3 : Option Value} {l : List (Option Value)} (v : Int32) (hd : decode cc pc = .ok (.iinc 4 n, 3)) (hv : x + Int32.ofInt n = v) (hn : 4 < nL) (hc : jc1 a3 = true) (K : RR g own cc nL ret nm d kc ks rk rn (pc + 3) (a0 :: a1 :: a2 :: a3 :: some (.int v) :: l) st w Q) : RR g own cc nL ret nm d kc ks rk rn pc (a0 :: a1 :: a2 :: a3 :: some (.int x) :: l) st w Q :=
  jr_iinc_g (k := 4) v hd rfl hv hn (fun q e => by cases e; exact hc) K
theorem jr_istore_5 {x : Int32} {a0 a1 a2 a3 a4 a5 : Option Value} {l : List (Option Value)} (hd : decode cc pc = .ok (.istore 5, 2)) (hn : 5 < nL) (hc : jc1 a4 = true) (K : RR g own cc nL ret nm d kc ks rk rn (pc + 2) (a0 :: a1 :: a2 :: a3 :: a4 :: some (.int x) :: l) st w Q) : RR g own cc nL ret nm d kc ks rk rn pc (a0 :: a1 :: a2 :: a3 :: a4 :: a5 :: l) (.int x :: st) w Q :=
  jr_istore_g (k := 5) hd hn (fun q e => by cases e; exact hc) K
theorem jr_astore_5 {x : Nat} {a0 a1 a2 a3 a4 a5 : Option Value} {l : List (Option Value)} (hd : decode cc pc = .ok (.astore 5, 2)) (hn : 5 < nL) (hc : jc1 a4 = true) (K : RR g own cc nL ret nm d kc ks rk rn (pc + 2) (a0 :: a1 :: a2 :: a3 :: a4 :: some (.ref x) :: l) st w Q) : RR g own cc nL ret nm d kc ks rk rn pc (a0 :: a1 :: a2 :: a3 :: a4 :: a5 :: l) (.ref x :: st) w Q :=
  jr_astore_g (k := 5) hd hn (fun q e => by cases e; exact hc) K
theorem jr_iinc_5 {n : Int} {x : Int32} {a0 a1 a2 a3 a4 : Option Value} {l : List (Option Value)} (v : Int32) (hd : decode cc pc = .ok (.iinc 5 n, 3)) (hv : x + Int32.ofInt n = v) (hn : 5 < nL) (hc : jc1 a4 = true) (K : RR g own cc nL ret nm d kc ks rk rn (pc + 3) (a0 :: a1 :: a2 :: a3 :: a4 :: some (.int v) :: l) st w Q) : RR g own cc nL ret nm d kc ks rk rn pc (a0 :: a1 :: a2 :: a3 :: a4 :: some (.int x) :: l) st w Q :=
  jr_iinc_g (k := 5) v hd rfl hv hn (fun q e => by cases e; exact hc) K
theorem jr_istore_6 {x : Int32} {a0 a1 a2 a3 a4 a5 a6 : Option Value} {l : List (Option Value)} (hd : decode cc pc = .ok (.istore 6, 2)) (hn : 6 < nL) (hc : jc1 a5 = true) (K : RR g own cc nL ret nm d kc ks rk rn (pc + 2) (a0 :: a1 :: a2 :: a3 :: a4 :: a5 :: some (.int x) :: l) st w Q) : RR g own cc nL ret nm d kc ks rk rn pc (a0 :: a1 :: a2 :: a3 :: a4 :: a5 :: a6 :: l) (.int x :: st) w Q :=
  jr_istore_g (k := 6) hd hn (fun q e => by cases e; exact hc) K
theorem jr_astore_6 {x : Nat} {a0 a1 a2 a3 a4 a5 a6 : Option Value} {l : List (Option Value)} (hd : decode cc pc = .ok (.astore 6, 2)) (hn : 6 < nL) (hc : jc1 a5 = true) (K : RR g own cc nL ret nm d kc ks rk rn (pc + 2) (a0 :: a1 :: a2 :: a3 :: a4 :: a5 :: some (.ref x) :: l) st w Q) : RR g own cc nL ret nm d kc ks rk rn pc (a0 :: a1 :: a2 :: a3 :: a4 :: a5 :: a6 :: l) (.ref x :: st) w Q :=
  jr_astore_g (k := 6) hd hn (fun q e => by cases e; exact hc) K
theorem jr_iinc_6 {n : Int} {x : Int32} {a0 a1 a2 a3 a4 a5 : Option Value} {l : List (Option Value)} (v : Int32) (hd : decode cc pc = .ok (.iinc 6 n, 3)) (hv : x + Int32.ofInt n = v) (hn : 6 < nL) (hc : jc1 a5 = true) (K : RR g own cc nL ret nm d kc ks rk rn (pc + 3) (a0 :: a1 :: a2 :: a3 :: a4 :: a5 :: some (.int v) :: l) st w Q) : RR g own cc nL ret nm d kc ks rk rn pc (a0 :: a1 :: a2 :: a3 :: a4 :: a5 :: some (.int x) :: l) st w Q :=
  jr_iinc_g (k := 6) v hd rfl hv hn (fun q e => by cases e; exact hc) K
theorem jr_istore_7 {x : Int32} {a0 a1 a2 a3 a4 a5 a6 a7 : Option Value} {l : List (Option Value)} (hd : decode cc pc = .ok (.istore 7, 2)) (hn : 7 < nL) (hc : jc1 a6 = true) (K : RR g own cc nL ret nm d kc ks rk rn (pc + 2) (a0 :: a1 :: a2 :: a3 :: a4 :: a5 :: a6 :: some (.int x) :: l) st w Q) : RR g own cc nL ret nm d kc ks rk rn pc (a0 :: a1 :: a2 :: a3 :: a4 :: a5 :: a6 :: a7 :: l) (.int x :: st) w Q :=
  jr_istore_g (k := 7) hd hn (fun q e => by cases e; exact hc) K
theorem jr_astore_7 {x : Nat} {a0 a1 a2 a3 a4 a5 a6 a7 : Option Value} {l : List (Option Value)} (hd : decode cc pc = .ok (.astore 7, 2)) (hn : 7 < nL) (hc : jc1 a6 = true) (K : RR g own cc nL ret nm d kc ks rk rn (pc + 2) (a0 :: a1 :: a2 :: a3 :: a4 :: a5 :: a6 :: some (.ref x) :: l) st w Q) : RR g own cc nL ret nm d kc ks rk rn pc (a0 :: a1 :: a2 :: a3 :: a4 :: a5 :: a6 :: a7 :: l) (.ref x :: st) w Q :=
  jr_astore_g (k := 7) hd hn (fun q e => by cases e; exact hc) K
theorem jr_iinc_7 {n : Int} {x : Int32} {a0 a1 a2 a3 a4 a5 a6 : Option Value} {l : List (Option Value)} (v : Int32) (hd : decode cc pc = .ok (.iinc 7 n, 3)) (hv : x + Int32.ofInt n = v) (hn : 7 < nL) (hc : jc1 a6 = true) (K : RR g own cc nL ret nm d kc ks rk rn (pc + 3) (a0 :: a1 :: a2 :: a3 :: a4 :: a5 :: a6 :: some (.int v) :: l) st w Q) : RR g own cc nL ret nm d kc ks rk rn pc (a0 :: a1 :: a2 :: a3 :: a4 :: a5 :: a6 :: some (.int x) :: l) st w Q :=
  jr_iinc_g (k := 7) v hd rfl hv hn (fun q e => by cases e; exact hc) K
theorem jr_istore_8 {x : Int32} {a0 a1 a2 a3 a4 a5 a6 a7 a8 : Option Value} {l : List (Option Value)} (hd : decode cc pc = .ok (.istore 8, 2)) (hn : 8 < nL) (hc : jc1 a7 = true) (K : RR g own cc nL ret nm d kc ks rk rn (pc + 2) (a0 :: a1 :: a2 :: a3 :: a4 :: a5 :: a6 :: a7 :: some (.int x) :: l) st w Q) : RR g own cc nL ret nm d kc ks rk rn pc (a0 :: a1 :: a2 :: a3 :: a4 :: a5 :: a6 :: a7 :: a8 :: l) (.int x :: st) w Q :=
  jr_istore_g (k := 8) hd hn (fun q e => by cases e; exact hc) K
theorem jr_astore_8 {x : Nat} {a0 a1 a2 a3 a4 a5 a6 a7 a8 : Option Value} {l : List (Option Value)} (hd : decode cc pc = .ok (.astore 8, 2)) (hn : 8 < nL) (hc : jc1 a7 = true) (K : RR g own cc nL ret nm d kc ks rk rn (pc + 2) (a0 :: a1 :: a2 :: a3 :: a4 :: a5 :: a6 :: a7 :: some (.ref x) :: l) st w Q) : RR g own cc nL ret nm d kc ks rk rn pc (a0 :: a1 :: a2 :: a3 :: a4 :: a5 :: a6 :: a7 :: a8 :: l) (.ref x :: st) w Q :=
  jr_astore_g (k := 8) hd hn (fun q e => by cases e; exact hc) K
theorem jr_iinc_8 {n : Int} {x : Int32} {a0 a1 a2 a3 a4 a5 a6 a7 : Option Value} {l : List (Option Value)} (v : Int32) (hd : decode cc pc = .ok (.iinc 8 n, 3)) (hv : x + Int32.ofInt n = v) (hn : 8 < nL) (hc : jc1 a7 = true) (K : RR g own cc nL ret nm d kc ks rk rn (pc + 3) (a0 :: a1 :: a2 :: a3 :: a4 :: a5 :: a6 :: a7 :: some (.int v) :: l) st w Q) : RR g own cc nL ret nm d kc ks rk rn pc (a0 :: a1 :: a2 :: a3 :: a4 :: a5 :: a6 :: a7 :: some (.int x) :: l) st w Q :=
  jr_iinc_g (k := 8) v hd rfl hv hn (fun q e => by cases e; exact hc) K
theorem jr_istore_9 {x : Int32} {a0 a1 a2 a3 a4 a5 a6 a7 a8 a9 : Option Value} {l : List (Option Value)} (hd : decode cc pc = .ok (.istore 9, 2)) (hn : 9 < nL) (hc : jc1 a8 = true) (K : RR g own cc nL ret nm d kc ks rk rn (pc + 2) (a0 :: a1 :: a2 :: a3 :: a4 :: a5 :: a6 :: a7 :: a8 :: some (.int x) :: l) st w Q) : RR g own cc nL ret nm d kc ks rk rn pc (a0 :: a1 :: a2 :: a3 :: a4 :: a5 :: a6 :: a7 :: a8 :: a9 :: l) (.int x :: st) w Q :=
  jr_istore_g (k := 9) hd hn (fun q e => by cases e; exact hc) K
theorem jr_astore_9 {x : Nat} {a0 a1 a2 a3 a4 a5 a6 a7 a8 a9 : Option Value} {l : List (Option Value)} (hd : decode cc pc = .ok (.astore 9, 2)) (hn : 9 < nL) (hc : jc1 a8 = true) (K : RR g own cc nL ret nm d kc ks rk rn (pc + 2) (a0 :: a1 :: a2 :: a3 :: a4 :: a5 :: a6 :: a7 :: a8 :: some (.ref x) :: l) st w Q) : RR g own cc nL ret nm d kc ks rk rn pc (a0 :: a1 :: a2 :: a3 :: a4 :: a5 :: a6 :: a7 :: a8 :: a9 :: l) (.ref x :: st) w Q :=
  jr_astore_g (k := 9) hd hn (fun q e => by cases e; exact hc) K
theorem jr_iinc_9 {n : Int} {x : Int32} {a0 a1 a2 a3 a4 a5 a6 a7 a8 : Option Value} {l : List (Option Value)} (v : Int32) (hd : decode cc pc = .ok (.iinc 9 n, 3)) (hv : x + Int32.ofInt n = v) (hn : 9 < nL) (hc : jc1 a8 = true) (K : RR g own cc nL ret nm d kc ks rk rn (pc + 3) (a0 :: a1 :: a2 :: a3 :: a4 :: a5 :: a6 :: a7 :: a8 :: some (.int v) :: l) st w Q) : RR g own cc nL ret nm d kc ks rk rn pc (a0 :: a1 :: a2 :: a3 :: a4 :: a5 :: a6 :: a7 :: a8 :: some (.int x) :: l) st w Q :=
  jr_iinc_g (k := 9) v hd rfl hv hn (fun q e => by cases e; exact hc) K
theorem jr_if_eq {x : Int32} {off : Int} (tgt : Nat) (hd : decode cc pc = .ok (.ifCond .eq off, 3)) (ht : (pc : Int) + off = (tgt : Int)) (KT : x = 0 → RR g own cc nL ret nm d kc ks rk rn tgt lv st w Q) (KF : ¬ x = 0 → RR g own cc nL ret nm d kc ks rk rn (pc + 3) lv st w Q) : RR g own cc nL ret nm d kc ks rk rn pc lv (.int x :: st) w Q :=
  fun p e s m args below meth c H locs cells slots ls hj hr h1 h2 hl => lv_if_eq hj.1.1 hj.1.2.1 hd ht (fun q => KT q p e s m args below meth c H locs cells slots ls hj hr h1 h2 hl) (fun q => KF q p e s m args below meth c H locs cells slots ls hj hr h1 h2 hl)
theorem jr_icmp_eq {x y : Int32} {off : Int} (tgt : Nat) (hd : decode cc pc = .ok (.if_icmp .eq off, 3)) (ht : (pc : Int) + off = (tgt : Int)) (KT : x = y → RR g own cc nL ret nm d kc ks rk rn tgt lv st w Q) (KF : ¬ x = y → RR g own cc nL ret nm d kc ks rk rn (pc + 3) lv st w Q) : RR g own cc nL ret nm d kc ks rk rn pc lv (.int y :: .int x :: st) w Q :=
  fun p e s m args below meth c H locs cells slots ls hj hr h1 h2 hl => lv_icmp_eq hj.1.1 hj.1.2.1 hd ht (fun q => KT q p e s m args below meth c H locs cells slots ls hj hr h1 h2 hl) (fun q => KF q p e s m args below meth c H locs cells slots ls hj hr h1 h2 hl)
theorem jr_if_ne {x : Int32} {off : Int} (tgt : Nat) (hd : decode cc pc = .ok (.ifCond .ne off, 3)) (ht : (pc : Int) + off = (tgt : Int)) (KT : ¬ x = 0 → RR g own cc nL ret nm d kc ks rk rn tgt lv st w Q) (KF : x = 0 → RR g own cc nL ret nm d kc ks rk rn (pc + 3) lv st w Q) : RR g own cc nL ret nm d kc ks rk rn pc lv (.int x :: st) w Q :=
  fun p e s m args below meth c H locs cells slots ls hj hr h1 h2 hl => lv_if_ne hj.1.1 hj.1.2.1 hd ht (fun q => KT q p e s m args below meth c H locs cells slots ls hj hr h1 h2 hl) (fun q => KF q p e s m args below meth c H locs cells slots ls hj hr h1 h2 hl)
theorem jr_icmp_ne {x y : Int32} {off : Int} (tgt : Nat) (hd : decode cc pc = .ok (.if_icmp .ne off, 3)) (ht : (pc : Int) + off = (tgt : Int)) (KT : ¬ x = y → RR g own cc nL ret nm d kc ks rk rn tgt lv st w Q) (KF : x = y → RR g own cc nL ret nm d kc ks rk rn (pc + 3) lv st w Q) : RR g own cc nL ret nm d kc ks rk rn pc lv (.int y :: .int x :: st) w Q :=
  fun p e s m args below meth c H locs cells slots ls hj hr h1 h2 hl => lv_icmp_ne hj.1.1 hj.1.2.1 hd ht (fun q => KT q p e s m args below meth c H locs cells slots ls hj hr h1 h2 hl) (fun q => KF q p e s m args below meth c H locs cells slots ls hj hr h1 h2 hl)
theorem jr_if_lt {x : Int32} {off : Int} (tgt : Nat) (hd : decode cc pc = .ok (.ifCond .lt off, 3)) (ht : (pc : Int) + off = (tgt : Int)) (KT : x < 0 → RR g own cc nL ret nm d kc ks rk rn tgt lv st w Q) (KF : ¬ x < 0 → RR g own cc nL ret nm d kc ks rk rn (pc + 3) lv st w Q) : RR g own cc nL ret nm d kc ks rk rn pc lv (.int x :: st) w Q :=
  fun p e s m args below meth c H locs cells slots ls hj hr h1 h2 hl => lv_if_lt hj.1.1 hj.1.2.1 hd ht (fun q => KT q p e s m args below meth c H locs cells slots ls hj hr h1 h2 hl) (fun q => KF q p e s m args below meth c H locs cells slots ls hj hr h1 h2 hl)
theorem jr_icmp_lt {x y : Int32} {off : Int} (tgt : Nat) (hd : decode cc pc = .ok (.if_icmp .lt off, 3)) (ht : (pc : Int) + off = (tgt : Int)) (KT : x < y → RR g own cc nL ret nm d kc ks rk rn tgt lv st w Q) (KF : ¬ x < y → RR g own cc nL ret nm d kc ks rk rn (pc + 3) lv st w Q) : RR g own cc nL ret nm d kc ks rk rn pc lv (.int y :: .int x :: st) w Q :=
  fun p e s m args below meth c H locs cells slots ls hj hr h1 h2 hl => lv_icmp_lt hj.1.1 hj.1.2.1 hd ht (fun q => KT q p e s m args below meth c H locs cells slots ls hj hr h1 h2 hl) (fun q => KF q p e s m args below meth c H locs cells slots ls hj hr h1 h2 hl)
theorem jr_if_ge {x : Int32} {off : Int} (tgt : Nat) (hd : decode cc pc = .ok (.ifCond .ge off, 3)) (ht : (pc : Int) + off = (tgt : Int)) (KT : 0 ≤ x → RR g own cc nL ret nm d kc ks rk rn tgt lv st w Q) (KF : ¬ 0 ≤ x → RR g own cc nL ret nm d kc ks rk rn (pc + 3) lv st w Q) : RR g own cc nL ret nm d kc ks rk rn pc lv (.int x :: st) w Q :=
  fun p e s m args below meth c H locs cells slots ls hj hr h1 h2 hl => lv_if_ge hj.1.1 hj.1.2.1 hd ht (fun q => KT q p e s m args below meth c H locs cells slots ls hj hr h1 h2 hl) (fun q => KF q p e s m args below meth c H locs cells slots ls hj hr h1 h2 hl)
theorem jr_icmp_ge {x y : Int32} {off : Int} (tgt : Nat) (hd : decode cc pc = .ok (.if_icmp .ge off, 3)) (ht : (pc : Int) + off = (tgt : Int)) (KT : y ≤ x → RR g own cc nL ret nm d kc ks rk rn tgt lv st w Q) (KF : ¬ y ≤ x → RR g own cc nL ret nm d kc ks rk rn (pc + 3) lv st w Q) : RR g own cc nL ret nm d kc ks rk rn pc lv (.int y :: .int x :: st) w Q :=
  fun p e s m args below meth c H locs cells slots ls hj hr h1 h2 hl => lv_icmp_ge hj.1.1 hj.1.2.1 hd ht (fun q => KT q p e s m args below meth c H locs cells slots ls hj hr h1 h2 hl) (fun q => KF q p e s m args below meth c H locs cells slots ls hj hr h1 h2 hl)
theorem jr_if_gt {x : Int32} {off : Int} (tgt : Nat) (hd : decode cc pc = .ok (.ifCond .gt off, 3)) (ht : (pc : Int) + off = (tgt : Int)) (KT : 0 < x → RR g own cc nL ret nm d kc ks rk rn tgt lv st w Q) (KF : ¬ 0 < x → RR g own cc nL ret nm d kc ks rk rn (pc + 3) lv st w Q) : RR g own cc nL ret nm d kc ks rk rn pc lv (.int x :: st) w Q :=
  fun p e s m args below meth c H locs cells slots ls hj hr h1 h2 hl => lv_if_gt hj.1.1 hj.1.2.1 hd ht (fun q => KT q p e s m args below meth c H locs cells slots ls hj hr h1 h2 hl) (fun q => KF q p e s m args below meth c H locs cells slots ls hj hr h1 h2 hl)
theorem jr_icmp_gt {x y : Int32} {off : Int} (tgt : Nat) (hd : decode cc pc = .ok (.if_icmp .gt off, 3)) (ht : (pc : Int) + off = (tgt : Int)) (KT : y < x → RR g own cc nL ret nm d kc ks rk rn tgt lv st w Q) (KF : ¬ y < x → RR g own cc nL ret nm d kc ks rk rn (pc + 3) lv st w Q) : RR g own cc nL ret nm d kc ks rk rn pc lv (.int y :: .int x :: st) w Q :=
  fun p e s m args below meth c H locs cells slots ls hj hr h1 h2 hl => lv_icmp_gt hj.1.1 hj.1.2.1 hd ht (fun q => KT q p e s m args below meth c H locs cells slots ls hj hr h1 h2 hl) (fun q => KF q p e s m args below meth c H locs cells slots ls hj hr h1 h2 hl)
theorem jr_if_le {x : Int32} {off : Int} (tgt : Nat) (hd : decode cc pc = .ok (.ifCond .le off, 3)) (ht : (pc : Int) + off = (tgt : Int)) (KT : x ≤ 0 → RR g own cc nL ret nm d kc ks rk rn tgt lv st w Q) (KF : ¬ x ≤ 0 → RR g own cc nL ret nm d kc ks rk rn (pc + 3) lv st w Q) : RR g own cc nL ret nm d kc ks rk rn pc lv (.int x :: st) w Q :=
  fun p e s m args below meth c H locs cells slots ls hj hr h1 h2 hl => lv_if_le hj.1.1 hj.1.2.1 hd ht (fun q => KT q p e s m args below meth c H locs cells slots ls hj hr h1 h2 hl) (fun q => KF q p e s m args below meth c H locs cells slots ls hj hr h1 h2 hl)
theorem jr_icmp_le {x y : Int32} {off : Int} (tgt : Nat) (hd : decode cc pc = .ok (.if_icmp .le off, 3)) (ht : (pc : Int) + off = (tgt : Int)) (KT : x ≤ y → RR g own cc nL ret nm d kc ks rk rn tgt lv st w Q) (KF : ¬ x ≤ y → RR g own cc nL ret nm d kc ks rk rn (pc + 3) lv st w Q) : RR g own cc nL ret nm d kc ks rk rn pc lv (.int y :: .int x :: st) w Q :=
  fun p e s m args below meth c H locs cells slots ls hj hr h1 h2 hl => lv_icmp_le hj.1.1 hj.1.2.1 hd ht (fun q => KT q p e s m args below meth c H locs cells slots ls hj hr h1 h2 hl) (fun q => KF q p e s m args below meth c H locs cells slots ls hj hr h1 h2 hl)
theorem jr_goto {off : Int} (tgt : Nat) (hd : decode cc pc = .ok (.goto off, 3)) (ht : (pc : Int) + off = (tgt : Int)) (K : RR g own cc nL ret nm d kc ks rk rn tgt lv st w Q) : RR g own cc nL ret nm d kc ks rk rn pc lv st w Q :=
  fun p e s m args below meth c H locs cells slots ls hj hr h1 h2 hl => lv_goto hj.1.1 hj.1.2.1 hd ht (K p e s m args below meth c H locs cells slots ls hj hr h1 h2 hl)
theorem jr_ifnull {x : Nat} {off : Int} (hd : decode cc pc = .ok (.ifnull off, 3)) (K : RR g own cc nL ret nm d kc ks rk rn (pc + 3) lv st w Q) : RR g own cc nL ret nm d kc ks rk rn pc lv (.ref x :: st) w Q :=
  fun p e s m args below meth c H locs cells slots ls hj hr h1 h2 hl => lv_ifnull hj.1.1 hj.1.2.1 hd (K p e s m args below meth c H locs cells slots ls hj hr h1 h2 hl)
theorem jr_ifnullN {off : Int} (tgt : Nat) (hd : decode cc pc = .ok (.ifnull off, 3)) (ht : (pc : Int) + off = (tgt : Int)) (K : RR g own cc nL ret nm d kc ks rk rn tgt lv st w Q) : RR g own cc nL ret nm d kc ks rk rn pc lv (.null :: st) w Q :=
  fun p e s m args below meth c H locs cells slots ls hj hr h1 h2 hl => lv_ifnullN hj.1.1 hj.1.2.1 hd ht (K p e s m args below meth c H locs cells slots ls hj hr h1 h2 hl)
theorem jr_ifnonnull {x : Nat} {off : Int} (tgt : Nat) (hd : decode cc pc = .ok (.ifnonnull off, 3)) (ht : (pc : Int) + off = (tgt : Int)) (K : RR g own cc nL ret nm d kc ks rk rn tgt lv st w Q) : RR g own cc nL ret nm d kc ks rk rn pc lv (.ref x :: st) w Q :=
  fun p e s m args below meth c H locs cells slots ls hj hr h1 h2 hl => lv_ifnonnull hj.1.1 hj.1.2.1 hd ht (K p e s m args below meth c H locs cells slots ls hj hr h1 h2 hl)
theorem jr_ifnonnullN {off : Int} (hd : decode cc pc = .ok (.ifnonnull off, 3)) (K : RR g own cc nL ret nm d kc ks rk rn (pc + 3) lv st w Q) : RR g own cc nL ret nm d kc ks rk rn pc lv (.null :: st) w Q :=
  fun p e s m args below meth c H locs cells slots ls hj hr h1 h2 hl => lv_ifnonnullN hj.1.1 hj.1.2.1 hd (K p e s m args below meth c H locs cells slots ls hj hr h1 h2 hl)
theorem jr_tableIn {dflt lo hi : Int} {offs : Array Int} {len : Nat} {x : Int32} {off : Int} (tgt : Nat) (hd : decode cc pc = .ok (.tableswitch dflt lo hi offs, len)) (q1 : ¬ x.toInt < lo) (q2 : ¬ hi < x.toInt) (ho : offs[(x.toInt - lo).toNat]? = some off) (ht : (pc : Int) + off = (tgt : Int)) (K : RR g own cc nL ret nm d kc ks rk rn tgt lv st w Q) : RR g own cc nL ret nm d kc ks rk rn pc lv (.int x :: st) w Q :=
  fun p e s m args below meth c H locs cells slots ls hj hr h1 h2 hl => lv_tableIn hj.1.1 hj.1.2.1 hd q1 q2 ho ht (K p e s m args below meth c H locs cells slots ls hj hr h1 h2 hl)
theorem jr_tableOut {dflt lo hi : Int} {offs : Array Int} {len : Nat} {x : Int32} (tgt : Nat) (hd : decode cc pc = .ok (.tableswitch dflt lo hi offs, len)) (q : x.toInt < lo ∨ hi < x.toInt) (ht : (pc : Int) + dflt = (tgt : Int)) (K : RR g own cc nL ret nm d kc ks rk rn tgt lv st w Q) : RR g own cc nL ret nm d kc ks rk rn pc lv (.int x :: st) w Q :=
  fun p e s m args below meth c H locs cells slots ls hj hr h1 h2 hl => lv_tableOut hj.1.1 hj.1.2.1 hd q ht (K p e s m args below meth c H locs cells slots ls hj hr h1 h2 hl)
theorem jr_lookup {dflt : Int} {ps : Array (Int × Int)} {len : Nat} {x : Int32} {off : Int} (tgt : Nat) (hd : decode cc pc = .ok (.lookupswitch dflt ps, len)) (hp : (ps.toList.zip (ps.toList.drop 1)).all (fun (a, next) => a.1 < next.1) = true) (ho : Op.lookupswitch.offset ps.toList dflt x.toInt = off) (ht : (pc : Int) + off = (tgt : Int)) (K : RR g own cc nL ret nm d kc ks rk rn tgt lv st w Q) : RR g own cc nL ret nm d kc ks rk rn pc lv (.int x :: st) w Q :=
  fun p e s m args below meth c H locs cells slots ls hj hr h1 h2 hl => lv_lookup hj.1.1 hj.1.2.1 hd hp ho ht (K p e s m args below meth c H locs cells slots ls hj hr h1 h2 hl)
theorem jr_ldc {idx : Nat} (v : Int32) (hw : Cond.constant own idx v ∈ kw) (hd : decode cc pc = .ok (.ldc idx, 2)) (K : RR g own cc nL ret nm d kc ks rk rn (pc + 2) lv (.int v :: st) w Q) : RR g own cc nL ret nm d kc ks rk rn pc lv st w Q :=
  fun p e s m args below meth c H locs cells slots ls hj hr h1 h2 hl => lv_ldc hj.1.1 hj.1.2.1 hj.1.2.2.2.1 (hj.1.2.2.2.2 _ hw) hd (K p e s m args below meth c H locs cells slots ls hj hr h1 h2 hl)
theorem jr_ldcw {idx : Nat} (v : Int32) (hw : Cond.constant own idx v ∈ kw) (hd : decode cc pc = .ok (.ldc_w idx, 3)) (K : RR g own cc nL ret nm d kc ks rk rn (pc + 3) lv (.int v :: st) w Q) : RR g own cc nL ret nm d kc ks rk rn pc lv st w Q :=
  fun p e s m args below meth c H locs cells slots ls hj hr h1 h2 hl => lv_ldcw hj.1.1 hj.1.2.1 hj.1.2.2.2.1 (hj.1.2.2.2.2 _ hw) hd (K p e s m args below meth c H locs cells slots ls hj hr h1 h2 hl)
theorem jr_ldc2 {idx : Nat} (v : Int64) (hw : Cond.constantLong own idx v ∈ kw) (hd : decode cc pc = .ok (.ldc2_w idx, 3)) (K : RR g own cc nL ret nm d kc ks rk rn (pc + 3) lv (.long v :: st) w Q) : RR g own cc nL ret nm d kc ks rk rn pc lv st w Q :=
  fun p e s m args below meth c H locs cells slots ls hj hr h1 h2 hl => lv_ldc2 hj.1.1 hj.1.2.1 hj.1.2.2.2.1 (hj.1.2.2.2.2 _ hw) hd (K p e s m args below meth c H locs cells slots ls hj hr h1 h2 hl)
-- ends
theorem jr_iret {x : Int32} (hret : ret = some .int) (hd : decode cc pc = .ok (.ireturn, 1)) (K : Q (some (.int x)) w) : RR g own cc nL ret nm d kc ks rk rn pc lv [.int x] w Q := by
  intro p e s m args below meth c H locs cells slots ls hj hr h1 h2 hl
  refine W.widen (k := kc) (n := ks) (by omega) (by omega) ?_
  exact W.iret hj.1.1 hj.1.2.1 (hj.2.1.trans hret) (fun t ht hW => ⟨⟨_, w, rfl, K, by rw [ht]; exact hr.1, by rw [ht]; exact hr.2.1⟩, hr.2.2.F ht⟩) (fun q hq => hr.2.2.2.2 q hq) hd hj.2.2.1
theorem jr_zret {x : Int32} {ty : FieldType} (hret : ret = some ty) (hn : narrow ty (.int x) = .int x) (hd : decode cc pc = .ok (.ireturn, 1)) (K : Q (some (.int x)) w) : RR g own cc nL ret nm d kc ks rk rn pc lv [.int x] w Q := by
  intro p e s m args below meth c H locs cells slots ls hj hr h1 h2 hl
  refine W.widen (k := kc) (n := ks) (by omega) (by omega) ?_
  exact W.zret hj.1.1 hj.1.2.1 (hj.2.1.trans hret) hn (fun t ht hW => ⟨⟨_, w, rfl, K, by rw [ht]; exact hr.1, by rw [ht]; exact hr.2.1⟩, hr.2.2.F ht⟩) (fun q hq => hr.2.2.2.2 q hq) hd hj.2.2.1
theorem jr_vret (hret : ret = none) (hd : decode cc pc = .ok (.return_, 1)) (K : Q none w) : RR g own cc nL ret nm d kc ks rk rn pc lv [] w Q := by
  intro p e s m args below meth c H locs cells slots ls hj hr h1 h2 hl
  refine W.widen (k := kc) (n := ks) (by omega) (by omega) ?_
  exact W.vret hj.1.1 hj.1.2.1 (hj.2.1.trans hret) (fun t ht hW => ⟨⟨_, w, rfl, K, by rw [ht]; exact hr.1, by rw [ht]; exact hr.2.1⟩, hr.2.2.F ht⟩) (fun q hq => hr.2.2.2.2 q hq) hd hj.2.2.1
theorem jr_aret {v : Value} {rt : FieldType} (hret : ret = some rt) (hrt : (∃ n, rt = .object n) ∨ ∃ t, rt = .array t) (hv : v = .null ∨ ∃ a, v = .ref a) (hd : decode cc pc = .ok (.areturn, 1)) (K : Q (some v) w) : RR g own cc nL ret nm d kc ks rk rn pc lv [v] w Q := by
  intro p e s m args below meth c H locs cells slots ls hj hr h1 h2 hl
  refine W.widen (k := kc) (n := ks) (by omega) (by omega) ?_
  exact W.aret hj.1.1 hj.1.2.1 (hj.2.1.trans hret) hrt hv (fun t ht hW => ⟨⟨_, w, rfl, K, by rw [ht]; exact hr.1, by rw [ht]; exact hr.2.1⟩, hr.2.2.F ht⟩) (fun q hq => hr.2.2.2.2 q hq) hd hj.2.2.1
-- fields
theorem jr_get {ci k idx a : Nat} {C ref : String} {T : u_T} {N : Nat} {v : Value} (hlk : Cond.fieldLink own idx ref (T k).2.1 (T k).2.2.1 ∈ kw) (hu : ∀ w ∈ u_ws C T N, w ∈ kw) (hc : kcl[ci]? = some (C, T, N)) (hci : ci < 10) (hk : k < N) (href : (T k).1 = ref)
    (hs : jK w a ci 0) (hv : (jfs ci (wI w a) (fun k => jrf g (wF w a k)))[k]? = some v) (hd : decode cc pc = .ok (.getfield idx, 3)) (K : RR g own cc nL ret nm d kc ks rk rn (pc + 3) lv (v :: st) w Q) : RR g own cc nL ret nm d kc ks rk rn pc lv (.ref (gb g + a) :: st) w Q := by
  intro p e s m args below meth c H locs cells slots ls hj hr h1 h2 hl
  have he : (wl g w)[a]? = some (gb g + a, .inr (ci, jfs ci (wI w a) (fun k => jrf g (wF w a k)))) := by rw [wl_at g w hs.1, cE_obj hs hci]
  subst href
  exact va_get hj.1.1 hj.1.2.1 hj.1.2.2.2.2 hu hj.1.2.2.2.1 hj.2.2.2.2.1 hr.2.1 a he hc k hk (hj.1.2.2.2.2 _ hlk) (fun _ h9 => h9) hv hd (K p e s m args below meth c H locs cells slots ls hj hr h1 h2 hl)
theorem jr_put {ci k idx a : Nat} {C ref : String} {T : u_T} {N : Nat} {v : Value} {ty : FieldType} {ty0 : Nat → FieldType} {w' : Wd} (hlk : Cond.fieldLink own idx ref (T k).2.1 (T k).2.2.1 ∈ kw) (hu : ∀ w ∈ u_ws C T N, w ∈ kw) (hc : kcl[ci]? = some (C, T, N)) (hci : ci < 10) (hk : k < N) (href : (T k).1 = ref)
    (hty : ∀ k, k < N → parseFieldDescriptor (T k).2.2.1 = some (ty0 k)) (hnm : ∀ a, a < N → ∀ b, b < N → a ≠ b → (T a).2.1 ≠ (T b).2.1) (hdt : parseFieldDescriptor (T k).2.2.1 = some ty) (hn : narrow ty v = v) (hfit : fits ty v = true) (hfin : (T k).2.2.2 = false ∨ ((T k).2.2.2 = true ∧ nm = "<init>" ∧ (T k).1 = own))
    (hs : jK w a ci 0) (hlen : ∀ I F, k < (jfs ci I F).length) (hw' : wn w' = wn w) (hset : cE g w' a = .inr (ci, (jfs ci (wI w a) (fun k => jrf g (wF w a k))).set k v)) (ho : ∀ i, i ≠ a → cE g w' i = cE g w i) (hd : decode cc pc = .ok (.putfield idx, 3)) (K : RR g own cc nL ret nm d kc ks rk rn (pc + 3) lv st w' Q) : RR g own cc nL ret nm d kc ks rk rn pc lv (v :: .ref (gb g + a) :: st) w Q := by
  intro p e s m args below meth c H locs cells slots ls hj hr h1 h2 hl
  have he : (wl g w)[a]? = some (gb g + a, .inr (ci, jfs ci (wI w a) (fun k => jrf g (wF w a k)))) := by rw [wl_at g w hs.1, cE_obj hs hci]
  have hP := hr.2.1
  have hK := hj.2.2.2.2.1
  have hts := hj.1.2.2.2.2
  have hown := hj.1.2.2.2.1
  have hD := wl_D g w
  subst href
  have hap := va_apart (own := own) hts hu ty0 hty hnm hK hc
  obtain ⟨r, g1, cell, q1, q2, q3, q4⟩ := hP a _ he
  have hr2 : r = (C, T, N) := Option.some.inj (g1.symm.trans hc)
  subst hr2
  obtain ⟨hS, hfc, kC, hkC, hkind⟩ := hK.1 ci _ hc
  obtain ⟨cf, kf, fi, f, hi, hsl⟩ := hS k hk
  have hlay := hts _ (hu _ (u_in_lay hk))
  have hst := (u_facts hfc hkC (u_lays hts hu hk) hi).1
  have fin : ∀ H' : Heap, H'[gb g + a]? = some (cell.setSlot (gD g |>.2 ci k) v) → H'.size = H.size → (∀ q : Nat, q ≠ gb g + a → H'[q]? = H[q]?) → W p (gl g) e (jrm d kc ks) s m args below meth c H' (locs ++ [⟨gb g + a, (gD g).2 ci k⟩]) cells slots (MQ below (QQ g Q) args s kc ks (gA g)) (F0 m (pc + 3) ls st) := by
    intro H' e1 e2 e3
    have hP' := hP.set hD he (e := .inr (ci, (jfs ci (wI w a) (fun k => jrf g (wF w a k))).set k v)) ⟨_, hc, t_OB.to (V := updV (vp_V (jfs ci (wI w a) (fun k => jrf g (wF w a k)))) k v) ⟨_, e1, q2, q3, t_set q4 hap hk v⟩ (fun j _ => vp_updV_set (hlen _ _) v j)⟩ e3
    rw [wl_set hs.1 hw' hset ho] at hP'
    exact K p e s m args below meth c H' _ cells slots ls hj ⟨by rw [e2, hw']; exact hr.1, hP', hr.2.2.put e2 e3 (hD.2 a _ he)⟩ h1 h2 hl
  unfold u_lay at hlay
  rcases hfin with hf | ⟨hf, hini, hdecl⟩
  · rw [if_neg (by rw [hf]; decide)] at hlay
    have h6 := u_store hfc hkC hkind hlay hi hdt hn hfit
    refine W.putK hj.1.1 hj.1.2.1 (f := f) ⟨hown, hts _ hlk, ⟨_, _, _, hi⟩, hst⟩ (by rw [q2]; exact h6) q1 q3 (by rw [hsl]; exact k2_hasslot (q4 k hk)) rfl rfl hd fun H' e1 e2 e3 => ?_
    rw [hsl] at e1 ⊢
    exact fin H' e1 e2 e3
  · rw [if_pos hf] at hlay
    have hcf : m.cls = cf := by
      obtain ⟨_, _, c', _, _, _, -, -, hf', -, -, -, hown2, -⟩ := Cond.laysFinal_spec hlay
      have e1 : c' = cf := by have := hi.symm.trans hf'; simp at this; exact this.1.symm
      rw [hdecl] at hown2
      rw [← e1]; exact Option.some.inj (hown.symm.trans hown2)
    have h6 := u_fits hfc hkC hkind (Or.inr hlay) hi hdt hn hfit
    refine W.putFinK hj.1.1 hj.1.2.1 hown (hts _ hlk) hi hst hcf (hj.2.2.2.1.trans hini) (by rw [q2]; exact h6) q1 q3 (by rw [hsl]; exact k2_hasslot (q4 k hk)) rfl rfl hd fun H' e1 e2 e3 => ?_
    rw [hsl] at e1 ⊢
    exact fin H' e1 e2 e3
-- rows
theorem jr_iald {a n : Nat} {i : Int32} (j : Nat) (hs : jK w a 11 n) (hij : i = nI j) (hjn : j < n ∧ n < 2 ^ 31) (hd : decode cc pc = .ok (.iaload, 1)) (K : RR g own cc nL ret nm d kc ks rk rn (pc + 1) lv (.int (wI w a j) :: st) w Q) : RR g own cc nL ret nm d kc ks rk rn pc lv (.int i :: .ref (gb g + a) :: st) w Q := by
  intro p e s m args below meth c H locs cells slots ls hj hr h1 h2 hl
  subst hij
  have ha : (wl g w)[a]? = some (gb g + a, .inl (gc g 1, n, .inl (wI w a))) := by rw [wl_at g w hs.1, cE_int hs (by decide) (by decide)]
  refine va_iald hj.1.1 hj.1.2.1 hj.2.2.2.2.1 hr.2.1 a 1 ha rfl (vp_in_nI hjn.1 hjn.2) hd ?_
  rw [nI_clamp (Nat.lt_trans hjn.1 hjn.2)]
  exact K p e s m args below meth c H locs cells slots ls hj hr h1 h2 hl
theorem jr_bald {a n : Nat} {i : Int32} (j : Nat) (hs : jK w a 10 n) (hij : i = nI j) (hjn : j < n ∧ n < 2 ^ 31) (hd : decode cc pc = .ok (.baload, 1)) (K : RR g own cc nL ret nm d kc ks rk rn (pc + 1) lv (.int (wI w a j) :: st) w Q) : RR g own cc nL ret nm d kc ks rk rn pc lv (.int i :: .ref (gb g + a) :: st) w Q := by
  intro p e s m args below meth c H locs cells slots ls hj hr h1 h2 hl
  subst hij
  have ha : (wl g w)[a]? = some (gb g + a, .inl (gc g 0, n, .inl (wI w a))) := by rw [wl_at g w hs.1, cE_int hs (by decide) (by decide)]
  refine va_bald hj.1.1 hj.1.2.1 hj.2.2.2.2.1 hr.2.1 a 0 ha rfl (vp_in_nI hjn.1 hjn.2) hd ?_
  rw [nI_clamp (Nat.lt_trans hjn.1 hjn.2)]
  exact K p e s m args below meth c H locs cells slots ls hj hr h1 h2 hl
theorem jr_aald {a kd n : Nat} {i : Int32} {v : Value} (j : Nat) (hs : jK w a kd n) (hkd : kd = 12 ∨ kd = 13 ∨ kd = 14 ∨ kd = 15) (hij : i = nI j) (hjn : j < n ∧ n < 2 ^ 31) (hv : jrf g (wF w a j) = v) (hd : decode cc pc = .ok (.aaload, 1)) (K : RR g own cc nL ret nm d kc ks rk rn (pc + 1) lv (v :: st) w Q) : RR g own cc nL ret nm d kc ks rk rn pc lv (.int i :: .ref (gb g + a) :: st) w Q := by
  intro p e s m args below meth c H locs cells slots ls hj hr h1 h2 hl
  subst hij
  subst hv
  have K2 := K p e s m args below meth c H locs cells slots ls hj hr h1 h2 hl
  have hin := vp_in_nI hjn.1 hjn.2
  have hcl : (nI j).toNatClampNeg = j := nI_clamp (Nat.lt_trans hjn.1 hjn.2)
  rcases hkd with rfl | rfl | rfl | rfl
  · exact va_aldq hj.1.1 hj.1.2.1 hj.2.2.2.2.1 hr.2.1 a 2 (by rw [wl_at g w hs.1, cE_ref hs (by decide) (by decide)]) rfl hin hd (by rw [hcl]; exact K2)
  · exact va_aldq hj.1.1 hj.1.2.1 hj.2.2.2.2.1 hr.2.1 a 3 (by rw [wl_at g w hs.1, cE_ref hs (by decide) (by decide)]) rfl hin hd (by rw [hcl]; exact K2)
  · exact va_aldq hj.1.1 hj.1.2.1 hj.2.2.2.2.1 hr.2.1 a 4 (by rw [wl_at g w hs.1, cE_ref hs (by decide) (by decide)]) rfl hin hd (by rw [hcl]; exact K2)
  · exact va_aldq hj.1.1 hj.1.2.1 hj.2.2.2.2.1 hr.2.1 a 5 (by rw [wl_at g w hs.1, cE_ref hs (by decide) (by decide)]) rfl hin hd (by rw [hcl]; exact K2)
theorem jr_alen {a kd n : Nat} (hs : jK w a kd n) (hkd : kd = 10 ∨ kd = 11) (hd : decode cc pc = .ok (.arraylength, 1)) (K : RR g own cc nL ret nm d kc ks rk rn (pc + 1) lv (.int (nI n) :: st) w Q) : RR g own cc nL ret nm d kc ks rk rn pc lv (.ref (gb g + a) :: st) w Q := by
  intro p e s m args below meth c H locs cells slots ls hj hr h1 h2 hl
  have K2 := K p e s m args below meth c H locs cells slots ls hj hr h1 h2 hl
  rcases hkd with rfl | rfl
  · exact va_alen (x := (n, .inl (wI w a))) hj.1.1 hj.1.2.1 hj.2.2.2.2.1 hr.2.1 a 0 (by rw [wl_at g w hs.1, cE_int hs (by decide) (by decide)]) rfl rfl hd K2
  · exact va_alen (x := (n, .inl (wI w a))) hj.1.1 hj.1.2.1 hj.2.2.2.2.1 hr.2.1 a 1 (by rw [wl_at g w hs.1, cE_int hs (by decide) (by decide)]) rfl rfl hd K2
theorem jr_iast {a n : Nat} {i x : Int32} (j : Nat) (hs : jK w a 11 n) (hij : i = nI j) (hjn : j < n ∧ n < 2 ^ 31) (hd : decode cc pc = .ok (.iastore, 1)) (K : RR g own cc nL ret nm d kc ks rk rn (pc + 1) lv st (sR w a (upd (wI w a) j x)) Q) : RR g own cc nL ret nm d kc ks rk rn pc lv (.int x :: .int i :: .ref (gb g + a) :: st) w Q := by
  intro p e s m args below meth c H locs cells slots ls hj hr h1 h2 hl
  subst hij
  have hcl : (nI j).toNatClampNeg = j := nI_clamp (Nat.lt_trans hjn.1 hjn.2)
  have ha : (wl g w)[a]? = some (gb g + a, .inl (gc g 1, n, .inl (wI w a))) := by rw [wl_at g w hs.1, cE_int hs (by decide) (by decide)]
  have hP := hr.2.1
  have hD := wl_D g w
  refine W.iast hj.1.1 hj.1.2.1 (hP a _ ha) ((hj.2.2.2.2.1.2 1 _ rfl).1 n (fun j => .int (wI w a j))) (fun q => by cases q) (by show ¬ (nI j < 0 ∨ (arrV _ _ _).slots.size ≤ _); rw [arrV_size]; exact vp_in_nI hjn.1 hjn.2) rfl rfl hd fun H1 e1 z oq => ?_
  have hP' := hP.set hD ha (e := .inl (gc g 1, n, .inl (upd (wI w a) j x))) (by
    show H1[gb g + a]? = some (vp_cell _ _)
    rw [e1]
    rw [vp_cell_i, vp_cell_i, arrV_store, hcl]
    congr 2
    funext q
    by_cases hq : q = j
    · subst hq; simp [updV, upd]
    · simp [updV, upd, hq]) oq
  rw [wl_set (w' := sR w a (upd (wI w a) j x)) hs.1 rfl (by rw [cE_int (hs.sR _ _) (by decide) (by decide), wI_sR_s]) (fun i hi => cE_sR_o hi)] at hP'
  exact K p e s m args below meth c H1 _ cells slots ls hj ⟨by rw [z]; exact hr.1, hP', hr.2.2.put z oq (hD.2 a _ ha)⟩ h1 h2 hl
theorem jr_bast {a n : Nat} {i x : Int32} (j : Nat) (hs : jK w a 10 n) (hij : i = nI j) (hjn : j < n ∧ n < 2 ^ 31) (hd : decode cc pc = .ok (.bastore, 1)) (K : RR g own cc nL ret nm d kc ks rk rn (pc + 1) lv st (sR w a (upd (wI w a) j x.toInt8.toInt32)) Q) : RR g own cc nL ret nm d kc ks rk rn pc lv (.int x :: .int i :: .ref (gb g + a) :: st) w Q := by
  intro p e s m args below meth c H locs cells slots ls hj hr h1 h2 hl
  subst hij
  have hcl : (nI j).toNatClampNeg = j := nI_clamp (Nat.lt_trans hjn.1 hjn.2)
  have ha : (wl g w)[a]? = some (gb g + a, .inl (gc g 0, n, .inl (wI w a))) := by rw [wl_at g w hs.1, cE_int hs (by decide) (by decide)]
  have hP := hr.2.1
  have hD := wl_D g w
  refine W.bast hj.1.1 hj.1.2.1 (hP a _ ha) ((hj.2.2.2.2.1.2 0 _ rfl).1 n (fun j => .int (wI w a j))) (fun q => by cases q) (by show ¬ (nI j < 0 ∨ (arrV _ _ _).slots.size ≤ _); rw [arrV_size]; exact vp_in_nI hjn.1 hjn.2) rfl rfl hd fun H1 e1 z oq => ?_
  have hP' := hP.set hD ha (e := .inl (gc g 0, n, .inl (upd (wI w a) j x.toInt8.toInt32))) (by
    show H1[gb g + a]? = some (vp_cell _ _)
    rw [e1]
    rw [vp_cell_i, vp_cell_i, arrV_store, hcl]
    congr 2
    funext q
    by_cases hq : q = j
    · subst hq
      have := vp_nar_byte x
      simp [updV, upd, narrow]
    · simp [updV, upd, hq]) oq
  rw [wl_set (w' := sR w a (upd (wI w a) j x.toInt8.toInt32)) hs.1 rfl (by rw [cE_int (hs.sR _ _) (by decide) (by decide), wI_sR_s]) (fun i hi => cE_sR_o hi)] at hP'
  exact K p e s m args below meth c H1 _ cells slots ls hj ⟨by rw [z]; exact hr.1, hP', hr.2.2.put z oq (hD.2 a _ ha)⟩ h1 h2 hl
theorem jr_aast_g {a b kd n ci t0 : Nat} {r : vw_C} {i : Int32} (j : Nat) (hs : jK w a kd n) (hb : jK w b ci 0) (hkd : ¬ kd < 12 ∧ ci < 10) (hc : kcl[ci]? = some r) (ht : (jtys g)[t0]? = some (gc g (kd - 10), .object r.1)) (hij : i = nI j) (hjn : j < n ∧ n < 2 ^ 31) (hd : decode cc pc = .ok (.aastore, 1)) (K : RR g own cc nL ret nm d kc ks rk rn (pc + 1) lv st (sP w a (uF (wF w a) j (some b))) Q) : RR g own cc nL ret nm d kc ks rk rn pc lv (.ref (gb g + b) :: .int i :: .ref (gb g + a) :: st) w Q := by
  intro p e s m args below meth c H locs cells slots ls hj hr h1 h2 hl
  subst hij
  have hcl : (nI j).toNatClampNeg = j := nI_clamp (Nat.lt_trans hjn.1 hjn.2)
  have hin : vp_in (nI j) n := vp_in_nI hjn.1 hjn.2
  have ha : (wl g w)[a]? = some (gb g + a, .inl (gc g (kd - 10), n, .inr (.inr (.inr (.inr (fun j => (wF w a j).map (fun i => gb g + i))))))) := by rw [wl_at g w hs.1, cE_ref hs (by omega) hkd.1]
  have hv : (wl g w)[b]? = some (gb g + b, .inr (ci, jfs ci (wI w b) (fun k => jrf g (wF w b k)))) := by rw [wl_at g w hb.1, cE_obj hb hkd.2]
  have hP := hr.2.1
  have hK := hj.2.2.2.2.1
  have hD := wl_D g w
  have h0 : ¬ nI j < 0 := fun q => hin (Or.inl q)
  obtain ⟨r', hr', cellV, g1, g2, g3, -⟩ := hP b _ hv
  have hcls := (hK.1 ci r hc).2
  obtain ⟨kA, comp, k1, k2, k3, -⟩ := (hK.2 t0 _ ht).2
  have hcomp : comp = (gD g).1 ci := Option.some.inj (k3.symm.trans hcls.1)
  subst hcomp
  obtain ⟨kC, hkC, -⟩ := hcls.2
  refine W.aast hj.1.1 hj.1.2.1 (hP a _ ha) (fun q h => by cases h) (fun h => by cases h) k1 k2 rfl hkC ⟨h0, by show _ < (arrV _ _ _).slots.size; rw [arrV_size, hcl]; exact hjn.1⟩ g1 (fun q h => by rw [g3] at h; cases h) (by rw [g2]; exact hkC) (by rw [g2]; exact va_assign hcls) rfl rfl hd fun H1 e1 z oq => ?_
  have hP' := hP.set hD ha (e := .inl (gc g (kd - 10), n, .inr (.inr (.inr (.inr (fun q => ((uF (wF w a) j (some b)) q).map (fun i => gb g + i))))))) (by
    show H1[gb g + a]? = some (vp_cell _ _)
    rw [e1]
    rw [vp_cell_q, vp_cell_q, arrV_store, hcl]
    congr 2
    funext q
    by_cases hq : q = j
    · subst hq; simp [updV, uF, va_rf]
    · simp [updV, uF, hq]) oq
  rw [wl_set (w' := sP w a (uF (wF w a) j (some b))) hs.1 rfl (by rw [cE_ref (hs.sP _ _) (by omega) hkd.1, wF_sP_s]) (fun i hi => cE_sP_o hi)] at hP'
  exact K p e s m args below meth c H1 _ cells slots ls hj ⟨by rw [z]; exact hr.1, hP', hr.2.2.put z oq (hD.2 a _ ha)⟩ h1 h2 hl
theorem jr_aastN_g {a kd n t0 : Nat} {C : String} {i : Int32} (j : Nat) (hs : jK w a kd n) (hkd : ¬ kd < 12) (ht : (jtys g)[t0]? = some (gc g (kd - 10), .object C)) (hij : i = nI j) (hjn : j < n ∧ n < 2 ^ 31) (hd : decode cc pc = .ok (.aastore, 1)) (K : RR g own cc nL ret nm d kc ks rk rn (pc + 1) lv st (sP w a (uF (wF w a) j none)) Q) : RR g own cc nL ret nm d kc ks rk rn pc lv (.null :: .int i :: .ref (gb g + a) :: st) w Q := by
  intro p e s m args below meth c H locs cells slots ls hj hr h1 h2 hl
  subst hij
  have hcl : (nI j).toNatClampNeg = j := nI_clamp (Nat.lt_trans hjn.1 hjn.2)
  have hin : vp_in (nI j) n := vp_in_nI hjn.1 hjn.2
  have ha : (wl g w)[a]? = some (gb g + a, .inl (gc g (kd - 10), n, .inr (.inr (.inr (.inr (fun j => (wF w a j).map (fun i => gb g + i))))))) := by rw [wl_at g w hs.1, cE_ref hs (by omega) hkd]
  have hP := hr.2.1
  have hK := hj.2.2.2.2.1
  have hD := wl_D g w
  refine va_WaastN (C := C) hj.1.1 hj.1.2.1 (hP a _ ha) ((hK.2 t0 _ ht).1 n (fun j => va_rf ((wF w a j).map (fun i => gb g + i)))) (fun h => by cases h) (by show ¬ (nI j < 0 ∨ (arrV _ _ _).slots.size ≤ _); rw [arrV_size]; exact hin) rfl rfl hd fun H1 e1 z oq => ?_
  have hP' := hP.set hD ha (e := .inl (gc g (kd - 10), n, .inr (.inr (.inr (.inr (fun q => ((uF (wF w a) j none) q).map (fun i => gb g + i))))))) (by
    show H1[gb g + a]? = some (vp_cell _ _)
    rw [e1]
    rw [vp_cell_q, vp_cell_q, arrV_store, hcl]
    congr 2
    funext q
    by_cases hq : q = j
    · subst hq; simp [updV, uF, va_rf]
    · simp [updV, uF, hq]) oq
  rw [wl_set (w' := sP w a (uF (wF w a) j none)) hs.1 rfl (by rw [cE_ref (hs.sP _ _) (by omega) hkd, wF_sP_s]) (fun i hi => cE_sP_o hi)] at hP'
  exact K p e s m args below meth c H1 _ cells slots ls hj ⟨by rw [z]; exact hr.1, hP', hr.2.2.put z oq (hD.2 a _ ha)⟩ h1 h2 hl
-- makings
theorem jr_push {H H1 : Heap} {s : State} {locs : List Loc} {kd n : Nat} (hr : Rp g w s H locs) (z1 : H1.size = gb g + wn w + 1) (o1 : ∀ q, q < gb g + wn w → H1[q]? = H[q]?) (he : va_at (gD g) kcl (gb g + wn w, cE g (pN w kd n) (wn w)) H1) : Rp g (pN w kd n) s H1 locs := by
  obtain ⟨h1, h2, h3⟩ := hr
  refine ⟨by rw [wn_pN]; omega, ?_, ?_⟩
  · have hP1 : va_P (gD g) kcl (wl g w) H1 := h2.kept (fun k x hx => o1 x.1 (by rw [← h1]; exact (h2 k x hx).lt))
    have hP2 : va_P (gD g) kcl [(gb g + wn w, cE g (pN w kd n) (wn w))] H1 := by
      intro k x hx
      have hz : k < 1 := (List.getElem?_eq_some_iff.mp hx).1
      rw [show k = 0 by omega] at hx
      cases hx
      exact he
    have := hP1.app hP2
    rwa [wl_push rfl] at this
  · exact ⟨Nat.le_trans h3.1 (by omega), fun x q1 q2 => (o1 x (by rw [← h1]; exact Nat.lt_of_lt_of_le q1 h3.1)).trans (h3.2.1 x q1 q2), h3.2.2⟩
theorem jr_new {ci idx N : Nat} {C : String} {T : u_T} {ty0 : Nat → FieldType} (hcl : Cond.classLink own idx C ∈ kw) (hinst : Cond.instantiable C N ∈ kw) (hini : Cond.initialized C ∈ kw) (hu : ∀ w ∈ u_ws C T N, w ∈ kw) (hc : kcl[ci]? = some (C, T, N)) (hci : ci < 10) (hty : ∀ k, k < N → parseFieldDescriptor (T k).2.2.1 = some (ty0 k))
    (hfs : ∀ j, j < N → defaultValue (ty0 j) = vp_V (jfs ci (fun _ => 0) (fun _ => .null)) j) (hrk : 1 ≤ rk ∧ N ≤ rn) (hd : decode cc pc = .ok (.new idx, 3)) (K : RR g own cc nL ret nm d kc ks (rk - 1) (rn - N) (pc + 3) lv (.ref (gb g + wn w) :: st) (pN w ci 0) Q) : RR g own cc nL ret nm d kc ks rk rn pc lv st w Q := by
  intro p e s m args below meth c H locs cells slots ls hj hr h1 h2 hl
  have hts := hj.1.2.2.2.2
  have hKn := hj.2.2.2.2.1.1 ci _ hc
  refine W.newcK hj.1.1 hj.1.2.1 hj.1.2.2.2.1 (hts _ hcl) (hts _ hinst) (hts _ hini) rfl hd (by show cells + 1 ≤ kc; omega) (by show slots + N ≤ ks; omega) hKn.2.1 hr.1 fun H1 kC hkC e1 z1 o1 => ?_
  refine K p e s m args below meth c H1 locs (cells + 1) (slots + N) ls hj (jr_push hr z1 o1 ?_) (by omega) (by omega) hl
  rw [cE_obj (jK_new w ci 0) hci]
  refine ⟨_, hc, (u_born ty0 hts hu hKn hkC e1 hty).to ?_⟩
  intro j hj2
  rw [hfs j hj2]
  simp only [wI_pN, wF_pN, if_true]
  rfl
theorem jr_newI {x : Int32} (n : Nat) (hx : x = nI n) (hn : n < 100000) (ha : Cond.arrayClass .int ∈ kw) (hrk : 1 ≤ rk ∧ n ≤ rn) (hd : decode cc pc = .ok (.newarray .int, 2)) (K : RR g own cc nL ret nm d kc ks (rk - 1) (rn - n) (pc + 2) lv (.ref (gb g + wn w) :: st) (pN w 11 n) Q) : RR g own cc nL ret nm d kc ks rk rn pc lv (.int x :: st) w Q := by
  intro p e s m args below meth c H locs cells slots ls hj hr h1 h2 hl
  subst hx
  have hcl : (nI n).toNatClampNeg = n := nI_clamp (Nat.lt_trans hn (by decide))
  refine va_newaK (atype := .int) hj.1.1 hj.1.2.1 (hj.1.2.2.2.2 _ ha) rfl hd rfl (nI_pos (Nat.lt_trans hn (by decide))) hcl (by show n * 4 ≤ _; omega) (by show cells + 1 ≤ kc; omega) (by show slots + n ≤ ks; omega) hr.1 fun H1 cA e1 z1 o1 hAr hNm => ?_
  have hcA : cA = gc g 1 := Option.some.inj (hNm.symm.trans (hj.2.2.2.2.1.2 1 _ rfl).2)
  subst hcA
  refine K p e s m args below meth c H1 locs (cells + 1) (slots + n) ls hj (jr_push hr z1 o1 ?_) (by omega) (by omega) hl
  rw [cE_int (jK_new w 11 n) (by decide) (by decide)]
  simp only [wI_pN, if_true]
  exact e1
theorem jr_newB {x : Int32} (n : Nat) (hx : x = nI n) (hn : n < 100000) (ha : Cond.arrayClass .byte ∈ kw) (hrk : 1 ≤ rk ∧ n ≤ rn) (hd : decode cc pc = .ok (.newarray .byte, 2)) (K : RR g own cc nL ret nm d kc ks (rk - 1) (rn - n) (pc + 2) lv (.ref (gb g + wn w) :: st) (pN w 10 n) Q) : RR g own cc nL ret nm d kc ks rk rn pc lv (.int x :: st) w Q := by
  intro p e s m args below meth c H locs cells slots ls hj hr h1 h2 hl
  subst hx
  have hcl : (nI n).toNatClampNeg = n := nI_clamp (Nat.lt_trans hn (by decide))
  refine va_newaK (atype := .byte) hj.1.1 hj.1.2.1 (hj.1.2.2.2.2 _ ha) rfl hd rfl (nI_pos (Nat.lt_trans hn (by decide))) hcl (by show n * 1 ≤ _; omega) (by show cells + 1 ≤ kc; omega) (by show slots + n ≤ ks; omega) hr.1 fun H1 cA e1 z1 o1 hAr hNm => ?_
  have hcA : cA = gc g 0 := Option.some.inj (hNm.symm.trans (hj.2.2.2.2.1.2 0 _ rfl).2)
  subst hcA
  refine K p e s m args below meth c H1 locs (cells + 1) (slots + n) ls hj (jr_push hr z1 o1 ?_) (by omega) (by omega) hl
  rw [cE_int (jK_new w 10 n) (by decide) (by decide)]
  simp only [wI_pN, if_true]
  exact e1
theorem jr_newA_g {x : Int32} {idx kd t0 : Nat} {C : String} (n : Nat) (hx : x = nI n) (hn : n < 100000) (hcl : Cond.classLink own idx C ∈ kw) (hC : C ∈ jarr) (hkd : ¬ kd < 12) (ht : (jtys g)[t0]? = some (gc g (kd - 10), .object C)) (hrk : 1 ≤ rk ∧ n ≤ rn) (hd : decode cc pc = .ok (.anewarray idx, 3)) (K : RR g own cc nL ret nm d kc ks (rk - 1) (rn - n) (pc + 3) lv (.ref (gb g + wn w) :: st) (pN w kd n) Q) : RR g own cc nL ret nm d kc ks rk rn pc lv (.int x :: st) w Q := by
  intro p e s m args below meth c H locs cells slots ls hj hr h1 h2 hl
  subst hx
  have hcln : (nI n).toNatClampNeg = n := nI_clamp (Nat.lt_trans hn (by decide))
  have hover : va_AO C s := hj.2.2.2.2.2.2.2.2.2.2.2.2.2 C hC
  refine W.anew hj.1.1 hj.1.2.1 hj.1.2.2.2.1 (hj.1.2.2.2.2 _ hcl) (va_AO.use hover) rfl hd rfl (nI_pos (Nat.lt_trans hn (by decide))) (by rw [hcln]; omega) (by show cells + 1 ≤ kc; omega) (by show slots + (nI n).toNatClampNeg ≤ ks; rw [hcln]; omega) fun cA kA comp f1 f2 f3 f4 => ?_
  rw [hcln]
  obtain ⟨kA', comp', k1, k2, k3, k4⟩ := (hj.2.2.2.2.1.2 t0 _ ht).2
  have hcA : cA = gc g (kd - 10) := Option.some.inj (f1.symm.trans k4)
  subst hcA
  generalize hH1 : H.push ({ cls := gc g (kd - 10), slots := Array.replicate n .null, vm := .none } : Cell) = H1
  have z1 : H1.size = gb g + wn w + 1 := by rw [← hH1, Array.size_push, hr.1]
  have e1 : H1[gb g + wn w]? = some (arrV (gc g (kd - 10)) n (fun _ => .null)) := by rw [← hH1, ← hr.1, Array.getElem?_push_size, ← arrV_new]
  have o1 : ∀ q : Nat, q < gb g + wn w → H1[q]? = H[q]? := fun q hq => by rw [← hH1, Array.getElem?_push, if_neg (by rw [hr.1]; exact Nat.ne_of_lt hq)]
  show W _ _ _ _ _ _ _ _ _ _ _ _ _ _ _ (F0 m (pc + 3) ls (.ref H.size :: st))
  rw [hr.1]
  refine K p e s m args below meth c H1 locs (cells + 1) (slots + n) ls hj (jr_push hr z1 o1 ?_) (by omega) (by omega) hl
  rw [cE_ref (jK_new w kd n) (by omega) hkd]
  simp only [wF_pN, if_true]
  exact e1
theorem jr_objInit {idx a : Nat} (hlk : Cond.methodLink own idx objectInit ∈ kw) (hin : Cond.instanceMethod objectInit ∈ kw) (hco : Cond.code objectInit ⟨#[0xb1]⟩ 1 none ∈ kw) (hdp : 1 ≤ d) (hst : (st.map fun v => v.category).sum ≤ 8) (hd : decode cc pc = .ok (.invokespecial idx, 3)) (K : RR g own cc nL ret nm d kc ks rk rn (pc + 3) lv st w Q) : RR g own cc nL ret nm d kc ks rk rn pc lv (.ref a :: st) w Q := by
  intro p e s m args below meth c H locs cells slots ls hj hr h1 h2 hl
  have hts := hj.1.2.2.2.2
  refine W.objInit hj.1.1 hj.1.2.1 hj.1.2.2.2.1 (hts _ hlk) (hts _ hin) (hts _ hco) rfl (hl.1.trans hj.1.2.2.1.symm) rfl hd hdp (by show 2 * 0 + _ + 12 ≤ 40 * d; omega) (K p e s m args below meth c H locs cells slots ls hj hr h1 h2 hl)
-- calls
theorem jr_after {H : Heap} {locs : List Loc} {s : State} {P : Option Value → Wd → Prop} {st0 : List Value} {mc ms : Nat} {p : Program} {e : Env} {m : MethodId} {args : Array Value} {below : List Frame} {meth : Method} {c : Code} {cells slots : Nat} {ls : Array Slot} {a : Array Value} (hj : JX g own cc nL ret nm p s m args meth c) (hr : Rp g w s H locs) (h1 : cells + rk ≤ kc) (h2 : slots + rn ≤ ks) (hm : mc ≤ rk ∧ ms ≤ rn) (hl : lv_has ls nL (jasc 0 lv))
    (hrun : va_Run p (gl g) e (jrm d kc ks) s m args below meth c H locs cells slots mc ms (F0 m pc ls st0) st (QQ g P a) (gA g)) (K : ∀ v w', P v w' → RR g own cc nL ret nm d kc ks (rk - mc) (rn - ms) (pc + 3) lv (v.toList ++ st) w' Q) :
    W p (gl g) e (jrm d kc ks) s m args below meth c H locs cells slots (MQ below (QQ g Q) args s kc ks (gA g)) (F0 m pc ls st0) := by
  intro T hT X
  obtain ⟨v, st₀, t, T', L, h0, X', hL, e1, e2, ⟨⟨v', w', hv, hp, hz, hP⟩, hz2, hk⟩, stp⟩ := hrun T hT X
  cases hv
  rw [h0] at hz2 hk
  have hS : va_S (gA g) s.heap T'.heap (locs ++ L) := ⟨Nat.le_trans hr.2.2.1 (by rw [e1]; exact hz2), fun q q1 q2 => by
      rw [e1, hk q (Nat.lt_of_lt_of_le q1 hr.2.2.1) q2]
      exact hr.2.2.2.1 q q1 q2, fun q hq => by
      rcases List.mem_append.mp hq with h | h
      · exact hr.2.2.2.2 q h
      · exact hL q h⟩
  obtain ⟨t2, a1, b1⟩ := K v w' hp p e s m args below meth c T'.heap (locs ++ L) (cells + mc) (slots + ms) ls hj ⟨by rw [e1]; exact hz, by rw [e1]; exact hP, hS⟩ (by omega) (by omega) hl T' rfl X'
  exact ⟨t2, stp t2 a1, b1⟩
theorem CC.blind {y : MethodName} {av : List Value} : FrameBlind (va_Pc av (fun U => GS g U ∧ U.heap.size = gb g + wn w ∧ va_P (gD g) kcl (wl g w) U.heap)) := fun a U f mk q => by
  obtain ⟨q0, q1, q2, q3⟩ := q
  exact ⟨q0, q1.calling f mk a, q2, q3⟩
theorem jr_pre {H : Heap} {locs : List Loc} {s U : State} {av : List Value} (hG : GS g s) (hr : Rp g w s H locs) (hU : U.heap = H) (hW : s.WarmedH U.vm) : va_Pc av (fun U => GS g U ∧ U.heap.size = gb g + wn w ∧ va_P (gD g) kcl (wl g w) U.heap) av.toArray U :=
  ⟨rfl, hG.to hW hr.2.2 hU, by rw [hU]; exact hr.1, by rw [hU]; exact hr.2.1⟩
/-- the words of a call: virtual, static, special; and of those through the nest -/
def JV (own : String) (idx : Nat) (y : MethodName) (cy : ByteArray) (ny : Nat) (ry : Option FieldType) (ci np : Nat) : Prop :=
  Cond.methodLink own idx y ∈ kw ∧ Cond.instanceMethod y ∈ kw ∧ Cond.selects y.cls y y ∈ kw ∧ Cond.initialized y.cls ∈ kw ∧ Cond.code y cy ny ry ∈ kw ∧ (∃ q : vw_C, kcl[ci]? = some q ∧ q.1 = y.cls ∧ ci < 10) ∧ (y.cls ≠ "java/lang/invoke/MethodHandle" ∧ y.cls ≠ "java/lang/invoke/VarHandle" ∧ (parseMethodDescriptor y.desc).map (fun d => d.parameters.length) = some np) ∧ ny ≤ 21
def JS (own : String) (idx : Nat) (y : MethodName) (cy : ByteArray) (ny : Nat) (ry : Option FieldType) (np : Nat) : Prop :=
  Cond.methodLink own idx y ∈ kw ∧ Cond.static y ∈ kw ∧ Cond.initialized y.cls ∈ kw ∧ Cond.code y cy ny ry ∈ kw ∧ (y.cls ≠ "java/lang/invoke/MethodHandle" ∧ y.cls ≠ "java/lang/invoke/VarHandle" ∧ (parseMethodDescriptor y.desc).map (fun d => d.parameters.length) = some np) ∧ ny ≤ 21
def JN (own : String) (idx : Nat) (y : MethodName) (cy : ByteArray) (ny : Nat) (ry : Option FieldType) (np : Nat) : Prop :=
  (∃ host, (own, idx, y, host) ∈ jnest) ∧ Cond.initialized y.cls ∈ kw ∧ Cond.code y cy ny ry ∈ kw ∧ (y.cls ≠ "java/lang/invoke/MethodHandle" ∧ y.cls ≠ "java/lang/invoke/VarHandle" ∧ (parseMethodDescriptor y.desc).map (fun d => d.parameters.length) = some np) ∧ ny ≤ 21
theorem jr_callV {y : MethodName} {cy : ByteArray} {ny : Nat} {ry : Option FieldType} {d' mc ms idx a ci np : Nat} {As st0 : List Value} {P : Option Value → Wd → Prop} (hC : CC g y cy ny ry d' mc ms (.ref (gb g + a) :: As) w P) (hlk : JV own idx y cy ny ry ci np) (hs : jK w a ci 0) (hst : st0 = As.reverse ++ .ref (gb g + a) :: st) (hn : As.length = np) (hdp : d' + 1 ≤ d) (hrm : (st.map fun v => v.category).sum ≤ 8) (hm : mc ≤ rk ∧ ms ≤ rn)
    (hd : decode cc pc = .ok (.invokevirtual idx, 3)) (K : ∀ v w', P v w' → RR g own cc nL ret nm d kc ks (rk - mc) (rn - ms) (pc + 3) lv (v.toList ++ st) w' Q) : RR g own cc nL ret nm d kc ks rk rn pc lv st0 w Q := by
  intro p e s m args below meth c H locs cells slots ls hj hr h1 h2 hl
  obtain ⟨k1, k2, k3, k4, k5, ⟨q, kq, kq2, hci⟩, k6, k7⟩ := hlk
  have hts := hj.1.2.2.2.2
  have he : (wl g w)[a]? = some (gb g + a, .inr (ci, jfs ci (wI w a) (fun k => jrf g (wF w a k)))) := by rw [wl_at g w hs.1, cE_obj hs hci]
  refine jr_after (st0 := st0) hj hr h1 h2 hm hl (va_runV (As := As) (rest := st) (C := y.cls) hj.1 hC ⟨callB_of np hts (kw_good _ _ _ _ k5) rfl rfl rfl (hts _ k4) (hts _ k1) k6 ⟨hdp, by show 8 + (ny + 11) + 40 * d' ≤ 40 * d; omega⟩, hts _ k2, hts _ k3⟩ ⟨CC.blind (y := y), by rw [← kq2]; exact va_recv hj.2.2.2.2.1 hr.2.1 kq he, fun U hU hW => jr_pre hj.2.2.2.2 hr hU hW⟩ rfl hn hl.1 hst (lv_room hrm) hd ⟨by show cells + mc ≤ kc; omega, by show slots + ms ≤ ks; omega⟩) K
theorem jr_callS {y : MethodName} {cy : ByteArray} {ny : Nat} {ry : Option FieldType} {d' mc ms idx np : Nat} {As st0 : List Value} {P : Option Value → Wd → Prop} (hC : CC g y cy ny ry d' mc ms As w P) (hlk : JS own idx y cy ny ry np) (hst : st0 = As.reverse ++ st) (hn : As.length = np) (hdp : d' + 1 ≤ d) (hrm : (st.map fun v => v.category).sum ≤ 8) (hm : mc ≤ rk ∧ ms ≤ rn)
    (hd : decode cc pc = .ok (.invokestatic idx, 3)) (K : ∀ v w', P v w' → RR g own cc nL ret nm d kc ks (rk - mc) (rn - ms) (pc + 3) lv (v.toList ++ st) w' Q) : RR g own cc nL ret nm d kc ks rk rn pc lv st0 w Q := by
  intro p e s m args below meth c H locs cells slots ls hj hr h1 h2 hl
  obtain ⟨k1, k3, k4, k5, k6, k7⟩ := hlk
  have hts := hj.1.2.2.2.2
  refine jr_after (st0 := st0) hj hr h1 h2 hm hl (va_runS (As := As) (rest := st) hj.1 hC ⟨callB_of np hts (kw_good _ _ _ _ k5) rfl rfl rfl (hts _ k4) (hts _ k1) k6 ⟨hdp, by show 8 + (ny + 11) + 40 * d' ≤ 40 * d; omega⟩, hts _ k3⟩ ⟨CC.blind (y := y), fun U hU hW => jr_pre hj.2.2.2.2 hr hU hW⟩ rfl hn hl.1 hst (lv_room hrm) hd ⟨by show cells + mc ≤ kc; omega, by show slots + ms ≤ ks; omega⟩) K
theorem jr_callSN {y : MethodName} {cy : ByteArray} {ny : Nat} {ry : Option FieldType} {d' mc ms idx np : Nat} {As st0 : List Value} {P : Option Value → Wd → Prop} (hC : CC g y cy ny ry d' mc ms As w P) (hlk : JN own idx y cy ny ry np ∧ Cond.static y ∈ kw) (hst : st0 = As.reverse ++ st) (hn : As.length = np) (hdp : d' + 1 ≤ d) (hrm : (st.map fun v => v.category).sum ≤ 8) (hm : mc ≤ rk ∧ ms ≤ rn)
    (hd : decode cc pc = .ok (.invokestatic idx, 3)) (K : ∀ v w', P v w' → RR g own cc nL ret nm d kc ks (rk - mc) (rn - ms) (pc + 3) lv (v.toList ++ st) w' Q) : RR g own cc nL ret nm d kc ks rk rn pc lv st0 w Q := by
  intro p e s m args below meth c H locs cells slots ls hj hr h1 h2 hl
  obtain ⟨⟨⟨host, k1⟩, k4, k5, k6, k7⟩, k3⟩ := hlk
  have hts := hj.1.2.2.2.2
  have hnw := hj.2.2.2.2.2.2.2.2.2.2.2.2.1 _ k1
  refine jr_after (st0 := st0) hj hr h1 h2 hm hl (va_runSN (host := host) (As := As) (rest := st) hj.1 hC ⟨va_cnB np hts (kw_good _ _ _ _ k5) rfl rfl rfl hnw (hts _ k4) k6 ⟨hdp, by show 8 + (ny + 11) + 40 * d' ≤ 40 * d; omega⟩, hts _ k3, trivial⟩ ⟨CC.blind (y := y), fun U hU hW => jr_pre hj.2.2.2.2 hr hU hW⟩ rfl hn hl.1 hst (lv_room hrm) hd ⟨by show cells + mc ≤ kc; omega, by show slots + ms ≤ ks; omega⟩) K
theorem jr_callI {y : MethodName} {cy : ByteArray} {ny : Nat} {d' mc ms idx a np : Nat} {As st0 : List Value} {P : Option Value → Wd → Prop} (hC : CC g y cy ny none d' mc ms (.ref (gb g + a) :: As) w P) (hlk : Cond.methodLink own idx y ∈ kw ∧ Cond.instanceMethod y ∈ kw ∧ Cond.initialized y.cls ∈ kw ∧ Cond.code y cy ny none ∈ kw ∧ (y.cls ≠ "java/lang/invoke/MethodHandle" ∧ y.cls ≠ "java/lang/invoke/VarHandle" ∧ (parseMethodDescriptor y.desc).map (fun d => d.parameters.length) = some np) ∧ ny ≤ 21 ∧ y.name = "<init>") (hst : st0 = As.reverse ++ .ref (gb g + a) :: st) (hn : As.length = np) (hdp : d' + 1 ≤ d) (hrm : (st.map fun v => v.category).sum ≤ 8) (hm : mc ≤ rk ∧ ms ≤ rn)
    (hd : decode cc pc = .ok (.invokespecial idx, 3)) (K : ∀ v w', P v w' → RR g own cc nL ret nm d kc ks (rk - mc) (rn - ms) (pc + 3) lv (v.toList ++ st) w' Q) : RR g own cc nL ret nm d kc ks rk rn pc lv st0 w Q := by
  intro p e s m args below meth c H locs cells slots ls hj hr h1 h2 hl
  obtain ⟨k1, k2, k4, k5, k6, k7, k8⟩ := hlk
  have hts := hj.1.2.2.2.2
  refine jr_after (st0 := st0) hj hr h1 h2 hm hl (va_runI (As := As) (rest := st) hj.1 hC ⟨callB_of np hts (kw_good _ _ _ _ k5) rfl rfl rfl (hts _ k4) (hts _ k1) k6 ⟨hdp, by show 8 + (ny + 11) + 40 * d' ≤ 40 * d; omega⟩, k8, hts _ k2⟩ ⟨CC.blind (y := y), fun U hU hW => jr_pre hj.2.2.2.2 hr hU hW⟩ rfl hn hl.1 hst (lv_room hrm) hd ⟨by show cells + mc ≤ kc; omega, by show slots + ms ≤ ks; omega⟩) K
theorem jr_callIN {y : MethodName} {cy : ByteArray} {ny : Nat} {d' mc ms idx a np : Nat} {As st0 : List Value} {P : Option Value → Wd → Prop} (hC : CC g y cy ny none d' mc ms (.ref (gb g + a) :: As) w P) (hlk : JN own idx y cy ny none np ∧ Cond.instanceMethod y ∈ kw ∧ y.name = "<init>") (hst : st0 = As.reverse ++ .ref (gb g + a) :: st) (hn : As.length = np) (hdp : d' + 1 ≤ d) (hrm : (st.map fun v => v.category).sum ≤ 8) (hm : mc ≤ rk ∧ ms ≤ rn)
    (hd : decode cc pc = .ok (.invokespecial idx, 3)) (K : ∀ v w', P v w' → RR g own cc nL ret nm d kc ks (rk - mc) (rn - ms) (pc + 3) lv (v.toList ++ st) w' Q) : RR g own cc nL ret nm d kc ks rk rn pc lv st0 w Q := by
  intro p e s m args below meth c H locs cells slots ls hj hr h1 h2 hl
  obtain ⟨⟨⟨host, k1⟩, k4, k5, k6, k7⟩, k2, k8⟩ := hlk
  have hts := hj.1.2.2.2.2
  have hnw := hj.2.2.2.2.2.2.2.2.2.2.2.2.1 _ k1
  refine jr_after (st0 := st0) hj hr h1 h2 hm hl (va_runIN (host := host) (As := As) (rest := st) hj.1 hC ⟨va_cnB np hts (kw_good _ _ _ _ k5) rfl rfl rfl hnw (hts _ k4) k6 ⟨hdp, by show 8 + (ny + 11) + 40 * d' ≤ 40 * d; omega⟩, k8, hts _ k2⟩ ⟨CC.blind (y := y), fun U hU hW => jr_pre hj.2.2.2.2 hr hU hW⟩ rfl hn hl.1 hst (lv_room hrm) hd ⟨by show cells + mc ≤ kc; omega, by show slots + ms ≤ ks; omega⟩) K
-- a contract out of a run from its entry
theorem CC.of {y : MethodName} {av : List Value} {P : Option Value → Wd → Prop} (hy : plainName y.cls = true) (ho : y.cls = own) (hnm : y.name = nm) (hln : (lg_sl av).length ≤ nL) (hlv : lv_args 0 av = jasc 0 lv) (K : RR g own cc nL ret nm d kc ks kc ks 0 lv [] w P) : CC g y cc nL ret d kc ks av w P := by
  refine Met.ofW (cc := cc) (maxL := nL) (ret := ret) hy rfl ?_
  intro p e s m args below meth c s₁ B hml hv
  obtain ⟨rfl, hG, hz, hP⟩ := hv
  have hts := atoms_spec (ws := Cond.code y cc nL ret :: kw) B.pre
  have hown : s.vm.findClass own = some m.cls := by rw [← ho]; exact findClass_of_methodNamed B.named
  have hin : meth.name = nm := (name_of_methodNamed B.named B.method).1.trans hnm
  have hl := lv_entry av (n := nL) hln
  rw [lg_entry_eq]
  rw [hlv] at hl
  exact K p e s m _ below meth c s.heap [] 0 0 _ ⟨⟨B.exec, B.bytes, hml, hown, fun w h => hts w (List.mem_cons_of_mem _ h)⟩, B.returns, B.notSynchronized, hin, hG⟩ ⟨hz, hP, va_S.rf⟩ (by omega) (by omega) hl
-- System.arraycopy of ints
theorem jr_acopy {idx a0 a n0 n1 : Nat} {x y z : Int32} (sp dp n : Nat) (hlk : Cond.methodLink own idx arraycopyName ∈ kw) (hnat : Cond.native arraycopyName ∈ kw) (hstt : Cond.static arraycopyName ∈ kw) (hini : Cond.initialized "java/lang/System" ∈ kw) (hs0 : jK w a0 11 n0) (hs1 : jK w a 11 n1) (hx : x = nI sp) (hy : y = nI dp) (hz : z = nI n) (hb : sp + n ≤ n0 ∧ dp + n ≤ n1 ∧ n0 < 2 ^ 31 ∧ n1 < 2 ^ 31) (hdp : 1 ≤ d) (hrm : (st.map fun v => v.category).sum ≤ 8)
    (hd : decode cc pc = .ok (.invokestatic idx, 3)) (K : RR g own cc nL ret nm d kc ks rk rn (pc + 3) lv st (sR w a (va_cpy (wI w a0) (wI w a) sp dp n)) Q) : RR g own cc nL ret nm d kc ks rk rn pc lv (.int z :: .int y :: .ref (gb g + a) :: .int x :: .ref (gb g + a0) :: st) w Q := by
  intro p e s m args below meth c H locs cells slots ls hj hr h1 h2 hl
  subst hx; subst hy; subst hz
  have hts := hj.1.2.2.2.2
  have hK := hj.2.2.2.2.1
  have hP := hr.2.1
  have hD := wl_D g w
  have ha0 : (wl g w)[a0]? = some (gb g + a0, .inl (gc g 1, n0, .inl (wI w a0))) := by rw [wl_at g w hs0.1, cE_int hs0 (by decide) (by decide)]
  have ha1 : (wl g w)[a]? = some (gb g + a, .inl (gc g 1, n1, .inl (wI w a))) := by rw [wl_at g w hs1.1, cE_int hs1 (by decide) (by decide)]
  have csp : (nI sp).toNatClampNeg = sp := nI_clamp (by omega)
  have cdp : (nI dp).toNatClampNeg = dp := nI_clamp (by omega)
  have cn : (nI n).toNatClampNeg = n := nI_clamp (by omega)
  have isp : (nI sp).toInt = (sp : Int) := nI_toInt (by omega)
  have idp : (nI dp).toInt = (dp : Int) := nI_toInt (by omega)
  have inn : (nI n).toInt = (n : Int) := nI_toInt (by omega)
  intro T hT X
  have hc0 : H[gb g + a0]? = some (vp_cell (gc g 1) (n0, .inl (wI w a0))) := hP a0 _ ha0
  have hc1 : H[gb g + a]? = some (vp_cell (gc g 1) (n1, .inl (wI w a))) := hP a _ ha1
  obtain ⟨-, k0, hk0, cm0, hkk0⟩ := (hK.2 1 _ rfl).1 n0 (fun j => .int (wI w a0 j))
  obtain ⟨-, k1, hk1, cm1, hkk1⟩ := (hK.2 1 _ rfl).1 n1 (fun j => .int (wI w a j))
  obtain ⟨vm', X', step⟩ := X.arraycopy hj.1.1 hj.1.2.2.2.1 (hts _ hlk) (hts _ hnat) (hts _ hstt) (hts _ hini) (src := gb g + a0) (dst := gb g + a) (cs := vp_cell (gc g 1) (n0, .inl (wI w a0))) (cd := vp_cell (gc g 1) (n1, .inl (wI w a))) (srcPos := nI sp) (destPos := nI dp) (n := nI n) (by rw [hT]; exact hc0) (by rw [hT]; exact hc1)
    (fun _ h => by cases h) (fun _ h => by cases h) (fun h => by cases h) (fun h => by cases h) hk0 hk1 hkk0 hkk1 (by show (refKind .int != refKind .int || !refKind .int && FieldType.int != FieldType.int) = false; decide) (nI_pos (by omega)) (nI_pos (by omega)) (nI_pos (by omega))
    (by rw [isp, inn]; show ¬ _ > ((arrV (gc g 1) n0 (fun j => .int (wI w a0 j))).slots.size : Int); rw [arrV_size]; omega)
    (by rw [idp, inn]; show ¬ _ > ((arrV (gc g 1) n1 (fun j => .int (wI w a j))).slots.size : Int); rw [arrV_size]; omega)
    (fun vm₁ _ i hi => by
      rw [cn] at hi
      have e : (vp_cell (gc g 1) (n0, .inl (wI w a0))).slots.getD ((nI sp).toNatClampNeg + i) .null = .int (wI w a0 (sp + i)) := by
        show (arrV (gc g 1) n0 (fun j => .int (wI w a0 j))).slots.getD _ _ = _
        rw [Array.getD_eq_getD_getElem?, csp, arrV_read _ _ (by omega)]
        rfl
      refine ⟨?_, ?_⟩
      · rw [e]; rfl
      · rw [e]; exact trivial)
    (g := F0 m pc ls (.int (nI n) :: .int (nI dp) :: .ref (gb g + a) :: .int (nI sp) :: .ref (gb g + a0) :: st)) rfl (hl.1.trans hj.1.2.2.1.symm) (rest := st) rfl (by rw [hj.1.2.1]; exact hd) hdp (by
      show 2 * 0 + _ + _ ≤ 40 * d
      have : nativeFrameWords "java/lang/System" "arraycopy" 5 + 11 ≤ 32 := by decide
      omega)
  have e1 : copied (vp_cell (gc g 1) (n0, .inl (wI w a0))) (vp_cell (gc g 1) (n1, .inl (wI w a))) (nI sp) (nI dp) (nI n) = vp_cell (gc g 1) (n1, .inl (va_cpy (wI w a0) (wI w a) (nI sp).toNatClampNeg (nI dp).toNatClampNeg (nI n).toNatClampNeg)) := va_copied (fun z => .int z) (gc g 1) (gc g 1) (wI w a0) (wI w a) (by rw [csp, cn]; exact hb.1)
  rw [e1] at X' step
  rw [csp, cdp, cn] at X' step
  have hlt : gb g + a < H.size := (Array.getElem?_eq_some_iff.mp hc1).1
  generalize hcell : vp_cell (gc g 1) (n1, .inl (va_cpy (wI w a0) (wI w a) sp dp n)) = cl at X' step
  have hheap : ((T.setVm vm').setCell (gb g + a) cl).heap = H.setIfInBounds (gb g + a) cl := by rw [← hT]; rfl
  have oq : ∀ q : Nat, q ≠ gb g + a → (H.setIfInBounds (gb g + a) cl)[q]? = H[q]? := fun q hq => by simp [Array.getElem?_setIfInBounds, Ne.symm hq]
  have hP' := hP.set hD ha1 (e := .inl (gc g 1, n1, .inl (va_cpy (wI w a0) (wI w a) sp dp n))) (H1 := H.setIfInBounds (gb g + a) cl) (by
    show (H.setIfInBounds (gb g + a) cl)[gb g + a]? = some (vp_cell _ _)
    rw [hcell]
    simp [Array.getElem?_setIfInBounds, hlt]) oq
  rw [wl_set (w' := sR w a (va_cpy (wI w a0) (wI w a) sp dp n)) hs1.1 rfl (by rw [cE_int (hs1.sR _ _) (by decide) (by decide), wI_sR_s]) (fun i hi => cE_sR_o hi)] at hP'
  obtain ⟨t, a1, b1⟩ := K p e s m args below meth c _ _ cells slots ls hj ⟨by rw [Array.size_setIfInBounds]; exact hr.1, hP', ⟨by rw [Array.size_setIfInBounds]; exact hr.2.2.1, fun q g1 g2 => by
      rw [oq q (fun e => g2 (by rw [e]; exact hD.2 a _ ha1))]
      exact hr.2.2.2.1 q g1 g2, fun q hq => by
      rcases List.mem_append.mp hq with h | h
      · exact hr.2.2.2.2 q h
      · obtain ⟨z, -, hz⟩ := List.mem_map.mp h
        rw [← hz]
        exact hD.2 a _ ha1⟩⟩ h1 h2 hl _ hheap X'
  exact ⟨t, step t a1, b1⟩
-- what lies outside the world: the static row ABOVE, String constants
theorem jr_gAbove {idx : Nat} (hlk : Cond.fieldLink own idx "StrokesHeard" "ABOVE" "[I" ∈ kw) (hd : decode cc pc = .ok (.getstatic idx, 3)) (K : RR g own cc nL ret nm d kc ks rk rn (pc + 3) lv (.ref (gx g 0) :: st) w Q) : RR g own cc nL ret nm d kc ks rk rn pc lv st w Q :=
  fun p e s m args below meth c H locs cells slots ls hj hr h1 h2 hl => va_gets hj.1.1 hj.1.2.1 hj.2.2.2.2.2.2.1 hr.2.2 hj.1.2.2.2.1 (hj.1.2.2.2.2 _ hlk) (fun _ h9 => h9) hd (K p e s m args below meth c H locs cells slots ls hj hr h1 h2 hl)
theorem jr_ldAbove {i : Int32} (j : Nat) (hij : i = nI j) (hjn : j < 6) (hd : decode cc pc = .ok (.iaload, 1)) (K : RR g own cc nL ret nm d kc ks rk rn (pc + 1) lv (.int (jabv j) :: st) w Q) : RR g own cc nL ret nm d kc ks rk rn pc lv (.int i :: .ref (gx g 0) :: st) w Q := by
  intro p e s m args below meth c H locs cells slots ls hj hr h1 h2 hl
  subst hij
  exact va_ti hj.1.1 hj.1.2.1 hj.2.2.2.2.2.2.2.1 hr.2.2 (vp_in_nI hjn (by decide)) (by rw [nI_clamp (Nat.lt_trans hjn (by decide))]) hd (K p e s m args below meth c H locs cells slots ls hj hr h1 h2 hl)
theorem jr_gCompact {idx : Nat} (hlk : Cond.fieldLink own idx "java/lang/String" "COMPACT_STRINGS" "Z" ∈ kw) (hd : decode cc pc = .ok (.getstatic idx, 3)) (K : RR g own cc nL ret nm d kc ks rk rn (pc + 3) lv (.int 1 :: st) w Q) : RR g own cc nL ret nm d kc ks rk rn pc lv st w Q :=
  fun p e s m args below meth c H locs cells slots ls hj hr h1 h2 hl => va_gets hj.1.1 hj.1.2.1 hj.2.2.2.2.2.2.2.2.1 hr.2.2 hj.1.2.2.2.1 (hj.1.2.2.2.2 _ hlk) (fun _ h9 => h9) hd (K p e s m args below meth c H locs cells slots ls hj hr h1 h2 hl)
theorem jr_gForm {idx : Nat} (hlk : Cond.fieldLink own idx "jdk/internal/util/Preconditions" "SIOOBE_FORMATTER" "Ljava/util/function/BiFunction;" ∈ kw) (hd : decode cc pc = .ok (.getstatic idx, 3)) (K0 : RR g own cc nL ret nm d kc ks rk rn (pc + 3) lv (.null :: st) w Q) (K : ∀ t : Nat, RR g own cc nL ret nm d kc ks rk rn (pc + 3) lv (.ref t :: st) w Q) : RR g own cc nL ret nm d kc ks rk rn pc lv st w Q := by
  intro p e s m args below meth c H locs cells slots ls hj hr h1 h2 hl
  rcases hj.2.2.2.2.2.2.2.2.2.1 with hZ | ⟨t, hZ⟩
  · exact va_gets hj.1.1 hj.1.2.1 hZ hr.2.2 hj.1.2.2.2.1 (hj.1.2.2.2.2 _ hlk) (fun _ h9 => h9) hd (K0 p e s m args below meth c H locs cells slots ls hj hr h1 h2 hl)
  · exact va_gets hj.1.1 hj.1.2.1 hZ hr.2.2 hj.1.2.2.2.1 (hj.1.2.2.2.2 _ hlk) (fun _ h9 => h9) hd (K t p e s m args below meth c H locs cells slots ls hj hr h1 h2 hl)
theorem jr_ldcS {i : Nat} {q : Nat × String} (hq : jstr[i]? = some q) (hown : own = RX6) (hd : decode cc pc = .ok (.ldc q.1, 2)) (K : RR g own cc nL ret nm d kc ks rk rn (pc + 2) lv (.ref (gx g (1 + i)) :: st) w Q) : RR g own cc nL ret nm d kc ks rk rn pc lv st w Q := by
  intro p e s m args below meth c H locs cells slots ls hj hr h1 h2 hl
  subst hown
  exact va_ldcS hj.1.1 hj.1.2.1 hj.1.2.2.2.1 (hj.2.2.2.2.2.2.2.2.2.2.2.1 i q hq) hd (K p e s m args below meth c H locs cells slots ls hj hr h1 h2 hl)
theorem jr_sValue {i idx : Nat} (hi : i < 9) (hlk : Cond.fieldLink own idx "java/lang/String" "value" "[B" ∈ kw) (hd : decode cc pc = .ok (.getfield idx, 3)) (K : RR g own cc nL ret nm d kc ks rk rn (pc + 3) lv (.ref (gx g (10 + i)) :: st) w Q) : RR g own cc nL ret nm d kc ks rk rn pc lv (.ref (gx g (1 + i)) :: st) w Q :=
  fun p e s m args below meth c H locs cells slots ls hj hr h1 h2 hl => vk_getf hj.1.1 hj.1.2.1 (hj.2.2.2.2.2.2.2.2.2.2.1.1 i hi).2.2.1 hr.2.2 hj.1.2.2.2.1 (hj.1.2.2.2.2 _ hlk) (fun _ h9 => h9) hd (K p e s m args below meth c H locs cells slots ls hj hr h1 h2 hl)
theorem jr_sCoder {i idx : Nat} (hi : i < 9) (hlk : Cond.fieldLink own idx "java/lang/String" "coder" "B" ∈ kw) (hd : decode cc pc = .ok (.getfield idx, 3)) (K : RR g own cc nL ret nm d kc ks rk rn (pc + 3) lv (.int 0 :: st) w Q) : RR g own cc nL ret nm d kc ks rk rn pc lv (.ref (gx g (1 + i)) :: st) w Q :=
  fun p e s m args below meth c H locs cells slots ls hj hr h1 h2 hl => vk_getf hj.1.1 hj.1.2.1 (hj.2.2.2.2.2.2.2.2.2.2.1.1 i hi).2.1 hr.2.2 hj.1.2.2.2.1 (hj.1.2.2.2.2 _ hlk) (fun _ h9 => h9) hd (K p e s m args below meth c H locs cells slots ls hj hr h1 h2 hl)
theorem jr_sLen {i : Nat} (hi : i < 9) (hd : decode cc pc = .ok (.arraylength, 1)) (K : RR g own cc nL ret nm d kc ks rk rn (pc + 1) lv (.int (nI (jlens.getD i 0)) :: st) w Q) : RR g own cc nL ret nm d kc ks rk rn pc lv (.ref (gx g (10 + i)) :: st) w Q :=
  fun p e s m args below meth c H locs cells slots ls hj hr h1 h2 hl => va_tlen hj.1.1 hj.1.2.1 (hj.2.2.2.2.2.2.2.2.2.2.1.1 i hi).2.2.2 hr.2.2 rfl hd (K p e s m args below meth c H locs cells slots ls hj hr h1 h2 hl)
theorem jr_sByte {i : Nat} {x : Int32} (j : Nat) (hi : i < 9) (hx : x = nI j) (hjn : j < jlens.getD i 0 ∧ jlens.getD i 0 < 2 ^ 31) (hd : decode cc pc = .ok (.baload, 1)) (K : RR g own cc nL ret nm d kc ks rk rn (pc + 1) lv (.int ((jbyts.getD i []).getD j 0) :: st) w Q) : RR g own cc nL ret nm d kc ks rk rn pc lv (.int x :: .ref (gx g (10 + i)) :: st) w Q := by
  intro p e s m args below meth c H locs cells slots ls hj hr h1 h2 hl
  subst hx
  exact va_tb hj.1.1 hj.1.2.1 (hj.2.2.2.2.2.2.2.2.2.2.1.1 i hi).2.2.2 hr.2.2 (vp_in_nI hjn.1 hjn.2) (by rw [nI_clamp (Nat.lt_trans hjn.1 hjn.2)]) hd (K p e s m args below meth c H locs cells slots ls hj hr h1 h2 hl)
theorem jr_callVX {y : MethodName} {cy : ByteArray} {ny : Nat} {ry : Option FieldType} {d' mc ms idx i np : Nat} {As st0 : List Value} {P : Option Value → Wd → Prop} (hC : CC g y cy ny ry d' mc ms (.ref (gx g (1 + i)) :: As) w P) (hi : i < 9) (hlk : Cond.methodLink own idx y ∈ kw ∧ Cond.instanceMethod y ∈ kw ∧ Cond.selects y.cls y y ∈ kw ∧ Cond.initialized y.cls ∈ kw ∧ Cond.code y cy ny ry ∈ kw ∧ y.cls = "java/lang/String" ∧ (y.cls ≠ "java/lang/invoke/MethodHandle" ∧ y.cls ≠ "java/lang/invoke/VarHandle" ∧ (parseMethodDescriptor y.desc).map (fun d => d.parameters.length) = some np) ∧ ny ≤ 21) (hst : st0 = As.reverse ++ .ref (gx g (1 + i)) :: st) (hn : As.length = np) (hdp : d' + 1 ≤ d) (hrm : (st.map fun v => v.category).sum ≤ 8) (hm : mc ≤ rk ∧ ms ≤ rn)
    (hd : decode cc pc = .ok (.invokevirtual idx, 3)) (K : ∀ v w', P v w' → RR g own cc nL ret nm d kc ks (rk - mc) (rn - ms) (pc + 3) lv (v.toList ++ st) w' Q) : RR g own cc nL ret nm d kc ks rk rn pc lv st0 w Q := by
  intro p e s m args below meth c H locs cells slots ls hj hr h1 h2 hl
  obtain ⟨k1, k2, k3, k4, k5, kq, k6, k7⟩ := hlk
  have hts := hj.1.2.2.2.2
  refine jr_after (st0 := st0) hj hr h1 h2 hm hl (va_runV (As := As) (rest := st) (C := y.cls) hj.1 hC ⟨callB_of np hts (kw_good _ _ _ _ k5) rfl rfl rfl (hts _ k4) (hts _ k1) k6 ⟨hdp, by show 8 + (ny + 11) + 40 * d' ≤ 40 * d; omega⟩, hts _ k2, hts _ k3⟩ ⟨CC.blind (y := y), by rw [kq]; exact vk_recv (adK := fun i => gx g (1 + i)) (i := i) hj.2.2.2.2.2.2.2.2.2.2.1 hi hr.2.2, fun U hU hW => jr_pre hj.2.2.2.2 hr hU hW⟩ rfl hn hl.1 hst (lv_room hrm) hd ⟨by show cells + mc ≤ kc; omega, by show slots + ms ≤ ks; omega⟩) K

end
