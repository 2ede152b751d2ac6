/-! the cells that both objects are made of, by their numbers: kind, length; the references in them that never change -/
def SH : List (Nat × Nat) := [(8, 0), (2, 0), (12, 6), (11, 12), (15, 14), (11, 3), (0, 0), (0, 0), (0, 0), (0, 0), (0, 0), (0, 0), (2, 0), (12, 6), (11, 12), (15, 14), (11, 3), (0, 0), (0, 0), (0, 0), (0, 0), (0, 0), (0, 0), (2, 0), (12, 6), (11, 12), (15, 14), (11, 3), (0, 0), (0, 0), (0, 0), (0, 0), (0, 0), (0, 0), (1, 0), (11, 720), (11, 97), (7, 0), (11, 720), (11, 720), (11, 720), (11, 720), (11, 720), (6, 0), (10, 0), (11, 96), (10, 96), (11, 60), (13, 4), (14, 5), (3, 0), (11, 24), (3, 0), (11, 24), (3, 0), (11, 24), (3, 0), (11, 24), (4, 0), (0, 0), (3, 0), (11, 24), (4, 0), (0, 0), (3, 0), (11, 24), (4, 0), (0, 0), (3, 0), (11, 24), (4, 0), (0, 0), (3, 0), (11, 24), (4, 0), (0, 0), (3, 0), (11, 24), (9, 0), (11, 3040), (11, 3040), (11, 3040), (11, 4), (11, 4), (11, 96), (11, 5), (11, 5), (11, 5), (11, 5), (11, 120), (11, 720), (11, 40), (11, 96), (11, 128), (11, 100), (11, 24), (11, 60), (11, 60)]
def RT : List (List (Option Nat)) := [[some 1, some 12, some 23, none, some 34, some 37, some 43, some 46, none, some 47, none, some 48, some 49], [some 2, none, none, none, none, none, none, none, none, some 3, none, some 4, none, some 5], [some 6, some 7, some 8, some 9, some 10, some 11], [], [], [], [], [], [], [], [], [], [some 13, none, none, none, none, none, none, none, none, some 14, none, some 15, none, some 16], [some 17, some 18, some 19, some 20, some 21, some 22], [], [], [], [], [], [], [], [], [], [some 24, none, none, none, none, none, none, none, none, some 25, none, some 26, none, some 27], [some 28, some 29, some 30, some 31, some 32, some 33], [], [], [], [], [], [], [], [], [], [some 35, some 36], [], [], [some 38, some 39, some 40, some 41, some 42], [], [], [], [], [], [none, none, none, none, none, none, none, some 45], [], [], [], [], [some 50, some 52, some 54, some 56], [some 58, some 62, some 66, some 70, some 74], [none, none, some 51], [], [none, none, some 53], [], [none, none, some 55], [], [none, none, some 57], [], [none, some 59, some 60], [], [none, none, some 61], [], [none, some 63, some 64], [], [none, none, some 65], [], [none, some 67, some 68], [], [none, none, some 69], [], [none, some 71, some 72], [], [none, none, some 73], [], [none, some 75, some 76], [], [none, none, some 77], [], [some 79, some 80, some 81, none, some 82, some 83, some 84, some 85, some 86, some 87, some 88, some 89, some 90, some 91, some 92, none, none, none, none, none, none, none, none, none, none, none, some 93, some 94, some 95, some 96, none, some 97], [], [], [], [], [], [], [], [], [], [], [], [], [], [], [], [], [], [], []]
def RF (a k : Nat) : Option Nat := (RT.getD a []).getD k none
/-- the world has the cells of both objects, and the references that never change -/
def Wf (w : Wd) : Prop := (∀ a kd n, SH[a]? = some (kd, n) → jK w a kd n) ∧ ∀ a k b, RF a k = some b → wF w a k = some b
theorem Wf.k {w : Wd} (h : Wf w) {a kd n : Nat} (e : SH[a]? = some (kd, n)) : jK w a kd n := h.1 a kd n e
theorem Wf.f {w : Wd} (h : Wf w) {a k b : Nat} (e : RF a k = some b) : wF w a k = some b := h.2 a k b e
/-- all ints of the world become J -/
def sI (w : Wd) (J : Nat → Nat → Int32) : Wd := (w.1, w.2.1, J, w.2.2.2)
theorem wI_sI (w : Wd) (J : Nat → Nat → Int32) : wI (sI w J) = J := rfl
theorem wn_sI (w : Wd) (J : Nat → Nat → Int32) : wn (sI w J) = wn w := rfl
theorem wsh_sI (w : Wd) (J : Nat → Nat → Int32) : wsh (sI w J) = wsh w := rfl
theorem wF_sI (w : Wd) (J : Nat → Nat → Int32) : wF (sI w J) = wF w := rfl
theorem sI_sI (w : Wd) (J J' : Nat → Nat → Int32) : sI (sI w J) J' = sI w J' := rfl
theorem sI_id (w : Wd) : sI w (wI w) = w := rfl
theorem sR_sI (w : Wd) (a : Nat) (f : Nat → Int32) : sR w a f = sI w (fun i => if i = a then f else wI w i) := rfl
theorem sR_sR (w : Wd) (a : Nat) (f f' : Nat → Int32) : sR (sR w a f) a f' = sR w a f' := by
  unfold sR
  congr 3
  funext i
  by_cases h : i = a
  · rw [if_pos h, if_pos h]
  · rw [if_neg h, if_neg h]
    exact if_neg h
theorem Wf.sI {w : Wd} (h : Wf w) (J : Nat → Nat → Int32) : Wf (sI w J) := h
theorem Wf.sR {w : Wd} (h : Wf w) (a : Nat) (f : Nat → Int32) : Wf (sR w a f) := h
/-- between two worlds only ints in the cells S have changed -/
def Sm (S : Nat → Prop) (w w' : Wd) : Prop := ∃ J, w' = sI w J ∧ ∀ i, ¬ S i → J i = wI w i
theorem Sm.rf {S : Nat → Prop} {w : Wd} : Sm S w w := ⟨wI w, rfl, fun _ _ => rfl⟩
theorem Sm.tr {S : Nat → Prop} {w w1 w2 : Wd} (h1 : Sm S w w1) (h2 : Sm S w1 w2) : Sm S w w2 := by
  obtain ⟨J, rfl, hJ⟩ := h1
  obtain ⟨J', rfl, hJ'⟩ := h2
  exact ⟨J', rfl, fun i hi => (hJ' i hi).trans (hJ i hi)⟩
theorem Sm.mono {S S' : Nat → Prop} {w w1 : Wd} (h : Sm S w w1) (hs : ∀ i, S i → S' i) : Sm S' w w1 := by
  obtain ⟨J, rfl, hJ⟩ := h
  exact ⟨J, rfl, fun i hi => hJ i (fun z => hi (hs i z))⟩
theorem Sm.row {S : Nat → Prop} {w w1 : Wd} (h : Sm S w w1) {i : Nat} (hi : ¬ S i) : wI w1 i = wI w i := by
  obtain ⟨J, rfl, hJ⟩ := h
  exact hJ i hi
theorem Sm.wf {S : Nat → Prop} {w w1 : Wd} (h : Sm S w w1) (hw : Wf w) : Wf w1 := by
  obtain ⟨J, rfl, hJ⟩ := h
  exact hw
theorem Sm.F {S : Nat → Prop} {w w1 : Wd} (h : Sm S w w1) : wF w1 = wF w := by
  obtain ⟨J, rfl, hJ⟩ := h
  rfl
theorem Sm.K {S : Nat → Prop} {w w1 : Wd} (h : Sm S w w1) {a kd n : Nat} : jK w1 a kd n ↔ jK w a kd n := by
  obtain ⟨J, rfl, hJ⟩ := h
  exact Iff.rfl
theorem Sm.sR {S : Nat → Prop} {w : Wd} {a : Nat} {f : Nat → Int32} (ha : S a) : Sm S w (sR w a f) := by
  refine ⟨fun i => if i = a then f else wI w i, rfl, fun i hi => ?_⟩
  have hne : ¬ i = a := fun e => hi (by rw [e]; exact ha)
  exact if_neg hne
-- contracts out of runs, with the end as a name
theorem CI.of {g : Cx} {own : String} {cc : ByteArray} {nL : Nat} {ret : Option FieldType} {nm : String} {d kc ks : Nat} {lv : List (Option Value)} {w : Wd} {y : MethodName} {av : List Value} {P : Int32 → Wd → Prop} (hy : plainName y.cls = true) (ho : y.cls = own) (hnm : y.name = nm) (hln : (lg_sl av).length ≤ nL) (hlv : lv_args 0 av = jasc 0 lv) (K : ∀ Q : Option Value → Wd → Prop, (∀ r w', P r w' → Q (some (.int r)) w') → RR g own cc nL ret nm d kc ks kc ks 0 lv [] w Q) : CI g y cc nL ret d kc ks av w P :=
  CC.of hy ho hnm hln hlv (K _ (fun r _ h => ⟨r, rfl, h⟩))
theorem CV.of {g : Cx} {own : String} {cc : ByteArray} {nL : Nat} {nm : String} {d kc ks : Nat} {lv : List (Option Value)} {w : Wd} {y : MethodName} {av : List Value} {P : Wd → Prop} (hy : plainName y.cls = true) (ho : y.cls = own) (hnm : y.name = nm) (hln : (lg_sl av).length ≤ nL) (hlv : lv_args 0 av = jasc 0 lv) (K : ∀ Q : Option Value → Wd → Prop, (∀ w', P w' → Q none w') → RR g own cc nL none nm d kc ks kc ks 0 lv [] w Q) : CV g y cc nL d kc ks av w P :=
  CC.of hy ho hnm hln hlv (K _ (fun _ h => ⟨rfl, h⟩))
theorem CR.of {g : Cx} {own : String} {cc : ByteArray} {nL : Nat} {ret : Option FieldType} {nm : String} {d kc ks : Nat} {lv : List (Option Value)} {w : Wd} {y : MethodName} {av : List Value} {P : Value → Wd → Prop} (hy : plainName y.cls = true) (ho : y.cls = own) (hnm : y.name = nm) (hln : (lg_sl av).length ≤ nL) (hlv : lv_args 0 av = jasc 0 lv) (K : ∀ Q : Option Value → Wd → Prop, (∀ r w', P r w' → Q (some r) w') → RR g own cc nL ret nm d kc ks kc ks 0 lv [] w Q) : CR g y cc nL ret d kc ks av w P :=
  CC.of hy ho hnm hln hlv (K _ (fun r _ h => ⟨r, rfl, h⟩))
section
variable {g : Cx} {own : String} {cc : ByteArray} {nL : Nat} {ret : Option FieldType} {nm : String} {d kc ks rk rn pc : Nat} {lv : List (Option Value)} {st : List Value} {w : Wd} {Q : Option Value → Wd → Prop}
variable {y : MethodName} {cy : ByteArray} {ny : Nat} {ry : Option FieldType} {d' idx a ci np : Nat} {As st0 : List Value}
theorem jc_Vi {P : Int32 → Wd → Prop} (hC : CI g y cy ny ry d' 0 0 (.ref (gb g + a) :: As) w P) (hlk : JV own idx y cy ny ry ci np) (hs : jK w a ci 0) (hst : st0 = As.reverse ++ .ref (gb g + a) :: st) (hn : As.length = np) (hdp : d' + 1 ≤ d) (hrm : (st.map fun v => v.category).sum ≤ 8)
    (hd : decode cc pc = .ok (.invokevirtual idx, 3)) (K : ∀ r w', P r w' → RR g own cc nL ret nm d kc ks rk rn (pc + 3) lv (.int r :: st) w' Q) : RR g own cc nL ret nm d kc ks rk rn pc lv st0 w Q :=
  jr_callV hC hlk hs hst hn hdp hrm ⟨Nat.zero_le _, Nat.zero_le _⟩ hd (fun v w' h => by obtain ⟨r, rfl, h⟩ := h; exact K r w' h)
theorem jc_Vv {P : Wd → Prop} (hC : CV g y cy ny d' 0 0 (.ref (gb g + a) :: As) w P) (hlk : JV own idx y cy ny none ci np) (hs : jK w a ci 0) (hst : st0 = As.reverse ++ .ref (gb g + a) :: st) (hn : As.length = np) (hdp : d' + 1 ≤ d) (hrm : (st.map fun v => v.category).sum ≤ 8)
    (hd : decode cc pc = .ok (.invokevirtual idx, 3)) (K : ∀ w', P w' → RR g own cc nL ret nm d kc ks rk rn (pc + 3) lv st w' Q) : RR g own cc nL ret nm d kc ks rk rn pc lv st0 w Q :=
  jr_callV hC hlk hs hst hn hdp hrm ⟨Nat.zero_le _, Nat.zero_le _⟩ hd (fun v w' h => by obtain ⟨rfl, h⟩ := h; exact K w' h)
theorem jc_Vr {P : Value → Wd → Prop} (hC : CR g y cy ny ry d' 0 0 (.ref (gb g + a) :: As) w P) (hlk : JV own idx y cy ny ry ci np) (hs : jK w a ci 0) (hst : st0 = As.reverse ++ .ref (gb g + a) :: st) (hn : As.length = np) (hdp : d' + 1 ≤ d) (hrm : (st.map fun v => v.category).sum ≤ 8)
    (hd : decode cc pc = .ok (.invokevirtual idx, 3)) (K : ∀ r w', P r w' → RR g own cc nL ret nm d kc ks rk rn (pc + 3) lv (r :: st) w' Q) : RR g own cc nL ret nm d kc ks rk rn pc lv st0 w Q :=
  jr_callV hC hlk hs hst hn hdp hrm ⟨Nat.zero_le _, Nat.zero_le _⟩ hd (fun v w' h => by obtain ⟨r, rfl, h⟩ := h; exact K r w' h)
theorem jc_Si {P : Int32 → Wd → Prop} (hC : CI g y cy ny ry d' 0 0 As w P) (hlk : JS own idx y cy ny ry np) (hst : st0 = As.reverse ++ st) (hn : As.length = np) (hdp : d' + 1 ≤ d) (hrm : (st.map fun v => v.category).sum ≤ 8)
    (hd : decode cc pc = .ok (.invokestatic idx, 3)) (K : ∀ r w', P r w' → RR g own cc nL ret nm d kc ks rk rn (pc + 3) lv (.int r :: st) w' Q) : RR g own cc nL ret nm d kc ks rk rn pc lv st0 w Q :=
  jr_callS hC hlk hst hn hdp hrm ⟨Nat.zero_le _, Nat.zero_le _⟩ hd (fun v w' h => by obtain ⟨r, rfl, h⟩ := h; exact K r w' h)
theorem jc_Sv {P : Wd → Prop} (hC : CV g y cy ny d' 0 0 As w P) (hlk : JS own idx y cy ny none np) (hst : st0 = As.reverse ++ st) (hn : As.length = np) (hdp : d' + 1 ≤ d) (hrm : (st.map fun v => v.category).sum ≤ 8)
    (hd : decode cc pc = .ok (.invokestatic idx, 3)) (K : ∀ w', P w' → RR g own cc nL ret nm d kc ks rk rn (pc + 3) lv st w' Q) : RR g own cc nL ret nm d kc ks rk rn pc lv st0 w Q :=
  jr_callS hC hlk hst hn hdp hrm ⟨Nat.zero_le _, Nat.zero_le _⟩ hd (fun v w' h => by obtain ⟨rfl, h⟩ := h; exact K w' h)
theorem jc_SNi {P : Int32 → Wd → Prop} (hC : CI g y cy ny ry d' 0 0 As w P) (hlk : JN own idx y cy ny ry np ∧ Cond.static y ∈ kw) (hst : st0 = As.reverse ++ st) (hn : As.length = np) (hdp : d' + 1 ≤ d) (hrm : (st.map fun v => v.category).sum ≤ 8)
    (hd : decode cc pc = .ok (.invokestatic idx, 3)) (K : ∀ r w', P r w' → RR g own cc nL ret nm d kc ks rk rn (pc + 3) lv (.int r :: st) w' Q) : RR g own cc nL ret nm d kc ks rk rn pc lv st0 w Q :=
  jr_callSN hC hlk hst hn hdp hrm ⟨Nat.zero_le _, Nat.zero_le _⟩ hd (fun v w' h => by obtain ⟨r, rfl, h⟩ := h; exact K r w' h)
end
-- numbers
theorem le_i (x y : Int32) : x ≤ y ↔ x.toInt ≤ y.toInt := Int32.le_iff_toInt_le
theorem lt_i (x y : Int32) : x < y ↔ x.toInt < y.toInt := Int32.lt_iff_toInt_lt
theorem eq_i (x y : Int32) : x = y ↔ x.toInt = y.toInt := ⟨fun h => h ▸ rfl, Int32.toInt_inj.mp⟩
theorem lt_l (x y : Int64) : x < y ↔ x.toInt < y.toInt := Int64.lt_iff_toInt_lt
theorem le_l (x y : Int64) : x ≤ y ↔ x.toInt ≤ y.toInt := Int64.le_iff_toInt_le
theorem l_of_i (x : Int32) : x.toInt64.toInt = x.toInt := Int32.toInt_toInt64 x
theorem i_nI {n : Nat} (h : n < 2 ^ 31) : (nI n).toInt = (n : Int) := nI_toInt h
theorem i_rng (x : Int32) : -2147483648 ≤ x.toInt ∧ x.toInt < 2147483648 := ⟨Int32.le_toInt x, Int32.toInt_lt x⟩
theorem i_of {x : Int32} {n : Nat} (h0 : 0 ≤ x.toInt) (h : x.toInt < n) : ∃ j : Nat, j < n ∧ x = nI j := by
  refine ⟨x.toInt.toNat, by omega, ?_⟩
  rw [eq_i, i_nI (by have := i_rng x; omega)]
  omega
theorem nI_inj {a b : Nat} (ha : a < 2 ^ 31) (hb : b < 2 ^ 31) (h : nI a = nI b) : a = b := (nI_eq ha hb).mp h
def jb (c : Prop) [Decidable c] : Int32 := if c then 1 else 0
theorem jb_t {c : Prop} [Decidable c] (h : c) : jb c = 1 := if_pos h
theorem jb_f {c : Prop} [Decidable c] (h : ¬ c) : jb c = 0 := if_neg h
theorem jb_t' {c : Prop} [Decidable c] (h : c) : 1 = jb c := (if_pos h).symm
theorem jb_f' {c : Prop} [Decidable c] (h : ¬ c) : 0 = jb c := (if_neg h).symm
theorem jb_0 {c : Prop} [Decidable c] : jb c = 0 ↔ ¬ c := by
  by_cases h : c
  · rw [jb_t h]; simp [h]
  · rw [jb_f h]; simp [h]
theorem jb_1 {c : Prop} [Decidable c] : ¬ jb c = 0 ↔ c := by
  by_cases h : c
  · rw [jb_t h]; simp [h]
  · rw [jb_f h]; simp [h]
theorem jb_n {c : Prop} [Decidable c] : narrow .boolean (.int (jb c)) = .int (jb c) := by
  by_cases h : c
  · rw [jb_t h]; decide
  · rw [jb_f h]; decide
theorem sub1_i {n : Nat} (h : n < 2 ^ 31) : (nI n - 1).toInt = (n : Int) - 1 := by
  cases n with
  | zero => decide
  | succ n =>
    rw [nI_pred, i_nI (by omega)]
    omega

theorem naX2_9 {g : Cx} {cc : ByteArray} {nL : Nat} {ret : Option FieldType} {nm : String} {d kc ks rk rn pc : Nat} {lv : List (Option Value)} {st : List Value} {w : Wd} {Q : Option Value → Wd → Prop} {x : Int32} (n : Nat) (hx : x = nI n) (hn : n < 100000) (hd : decode cc pc = .ok (.anewarray 9, 3)) (hrk : 1 ≤ rk ∧ n ≤ rn) (K : RR g RX2 cc nL ret nm d kc ks (rk - 1) (rn - n) (pc + 3) lv (.ref (gb g + wn w) :: st) (pN w 12 n) Q) : RR g RX2 cc nL ret nm d kc ks rk rn pc lv (.int x :: st) w Q :=
  jr_newA_g (kd := 12) (t0 := 2) n hx hn clX2_9 (by decide +kernel) (by decide) rfl hrk hd K
theorem naX8_62 {g : Cx} {cc : ByteArray} {nL : Nat} {ret : Option FieldType} {nm : String} {d kc ks rk rn pc : Nat} {lv : List (Option Value)} {st : List Value} {w : Wd} {Q : Option Value → Wd → Prop} {x : Int32} (n : Nat) (hx : x = nI n) (hn : n < 100000) (hd : decode cc pc = .ok (.anewarray 62, 3)) (hrk : 1 ≤ rk ∧ n ≤ rn) (K : RR g RX8 cc nL ret nm d kc ks (rk - 1) (rn - n) (pc + 3) lv (.ref (gb g + wn w) :: st) (pN w 13 n) Q) : RR g RX8 cc nL ret nm d kc ks rk rn pc lv (.int x :: st) w Q :=
  jr_newA_g (kd := 13) (t0 := 3) n hx hn clX8_62 (by decide +kernel) (by decide) rfl hrk hd K
theorem naX8_68 {g : Cx} {cc : ByteArray} {nL : Nat} {ret : Option FieldType} {nm : String} {d kc ks rk rn pc : Nat} {lv : List (Option Value)} {st : List Value} {w : Wd} {Q : Option Value → Wd → Prop} {x : Int32} (n : Nat) (hx : x = nI n) (hn : n < 100000) (hd : decode cc pc = .ok (.anewarray 68, 3)) (hrk : 1 ≤ rk ∧ n ≤ rn) (K : RR g RX8 cc nL ret nm d kc ks (rk - 1) (rn - n) (pc + 3) lv (.ref (gb g + wn w) :: st) (pN w 14 n) Q) : RR g RX8 cc nL ret nm d kc ks rk rn pc lv (.int x :: st) w Q :=
  jr_newA_g (kd := 14) (t0 := 4) n hx hn clX8_68 (by decide +kernel) (by decide) rfl hrk hd K
