/-! THE PURE WORLD: cells numbered from 0 on in the order of their making, the first at the address gb g; a kind and a length each; what ints and what references they hold -/
abbrev Cx : Type := Launch × Nat × va_G × (Nat → ClassId) × (Nat → Nat)
def gl (g : Cx) : Launch := g.1
def gb (g : Cx) : Nat := g.2.1
def gD (g : Cx) : va_G := g.2.2.1
def gc (g : Cx) : Nat → ClassId := g.2.2.2.1
def gx (g : Cx) : Nat → Nat := g.2.2.2.2
def gA (g : Cx) : Nat → Prop := fun q => gb g ≤ q
abbrev Wd : Type := Nat × (Nat → Nat × Nat) × (Nat → Nat → Int32) × (Nat → Nat → Option Nat)
def wn (w : Wd) : Nat := w.1
def wsh (w : Wd) : Nat → Nat × Nat := w.2.1
def wI (w : Wd) : Nat → Nat → Int32 := w.2.2.1
def wF (w : Wd) : Nat → Nat → Option Nat := w.2.2.2
/-- the ints of cell a become f; its references become f; one more cell of a kind and a length, all 0, null -/
def sR (w : Wd) (a : Nat) (f : Nat → Int32) : Wd := (w.1, w.2.1, fun i => if i = a then f else w.2.2.1 i, w.2.2.2)
def sP (w : Wd) (a : Nat) (f : Nat → Option Nat) : Wd := (w.1, w.2.1, w.2.2.1, fun i => if i = a then f else w.2.2.2 i)
def pN (w : Wd) (kd n : Nat) : Wd := (w.1 + 1, fun i => if i = w.1 then (kd, n) else w.2.1 i, fun i => if i = w.1 then (fun _ => 0) else w.2.2.1 i, fun i => if i = w.1 then (fun _ => none) else w.2.2.2 i)
def jK (w : Wd) (a kd n : Nat) : Prop := a < wn w ∧ wsh w a = (kd, n)
def uF (f : Nat → Option Nat) (k : Nat) (x : Option Nat) : Nat → Option Nat := fun j => if j = k then x else f j
theorem wn_sR (w : Wd) (a : Nat) (f : Nat → Int32) : wn (sR w a f) = wn w := rfl
theorem wsh_sR (w : Wd) (a : Nat) (f : Nat → Int32) : wsh (sR w a f) = wsh w := rfl
theorem wF_sR (w : Wd) (a : Nat) (f : Nat → Int32) : wF (sR w a f) = wF w := rfl
theorem wI_sR (w : Wd) (a : Nat) (f : Nat → Int32) (i : Nat) : wI (sR w a f) i = if i = a then f else wI w i := rfl
theorem wI_sR_s (w : Wd) (a : Nat) (f : Nat → Int32) : wI (sR w a f) a = f := by rw [wI_sR, if_pos rfl]
theorem wI_sR_n (w : Wd) {a i : Nat} (h : i ≠ a) (f : Nat → Int32) : wI (sR w a f) i = wI w i := by rw [wI_sR, if_neg h]
theorem wn_sP (w : Wd) (a : Nat) (f : Nat → Option Nat) : wn (sP w a f) = wn w := rfl
theorem wsh_sP (w : Wd) (a : Nat) (f : Nat → Option Nat) : wsh (sP w a f) = wsh w := rfl
theorem wI_sP (w : Wd) (a : Nat) (f : Nat → Option Nat) : wI (sP w a f) = wI w := rfl
theorem wF_sP (w : Wd) (a : Nat) (f : Nat → Option Nat) (i : Nat) : wF (sP w a f) i = if i = a then f else wF w i := rfl
theorem wF_sP_s (w : Wd) (a : Nat) (f : Nat → Option Nat) : wF (sP w a f) a = f := by rw [wF_sP, if_pos rfl]
theorem wF_sP_n (w : Wd) {a i : Nat} (h : i ≠ a) (f : Nat → Option Nat) : wF (sP w a f) i = wF w i := by rw [wF_sP, if_neg h]
theorem wn_pN (w : Wd) (kd n : Nat) : wn (pN w kd n) = wn w + 1 := rfl
theorem wsh_pN (w : Wd) (kd n i : Nat) : wsh (pN w kd n) i = if i = wn w then (kd, n) else wsh w i := rfl
theorem wI_pN (w : Wd) (kd n i : Nat) : wI (pN w kd n) i = if i = wn w then (fun _ => 0) else wI w i := rfl
theorem wF_pN (w : Wd) (kd n i : Nat) : wF (pN w kd n) i = if i = wn w then (fun _ => none) else wF w i := rfl
theorem jK.sR {w : Wd} {a kd n : Nat} (h : jK w a kd n) (b : Nat) (f : Nat → Int32) : jK (sR w b f) a kd n := h
theorem jK.sP {w : Wd} {a kd n : Nat} (h : jK w a kd n) (b : Nat) (f : Nat → Option Nat) : jK (sP w b f) a kd n := h
theorem jK.pN {w : Wd} {a kd n : Nat} (h : jK w a kd n) (kd' n' : Nat) : jK (pN w kd' n') a kd n := by
  obtain ⟨h1, h2⟩ := h
  refine ⟨by rw [wn_pN]; omega, ?_⟩
  rw [wsh_pN, if_neg (by omega)]
  exact h2
theorem jK_new (w : Wd) (kd n : Nat) : jK (pN w kd n) (wn w) kd n := ⟨by rw [wn_pN]; omega, by rw [wsh_pN, if_pos rfl]⟩
def jrf (g : Cx) (x : Option Nat) : Value := va_rf (x.map (fun i => gb g + i))
def jfs (ci : Nat) (I : Nat → Int32) (F : Nat → Value) : List Value := match ci with
  | 0 => [.int (I 0), .int (I 1), .int (I 2)]
  | 1 => [F 0, F 1, .int (I 2), .int (I 3), .int (I 4), .int (I 5)]
  | 2 => [F 0, .int (I 1), .int (I 2), .int (I 3), .int (I 4), .int (I 5), .int (I 6), .int (I 7), .int (I 8), F 9, .int (I 10), F 11, .int (I 12), F 13]
  | 3 => [.int (I 0), .int (I 1), F 2]
  | 4 => [.int (I 0), F 1, F 2, .int (I 3)]
  | 5 => [.int (I 0), .int (I 1), F 2, F 3]
  | 6 => [F 0, .int (I 1), .int (I 2), .int (I 3), .int (I 4), .int (I 5), .int (I 6), F 7, .int (I 8)]
  | 7 => [F 0, F 1, F 2, F 3, F 4, .int (I 5)]
  | 8 => [F 0, F 1, F 2, .int (I 3), F 4, F 5, F 6, F 7, .int (I 8), F 9, .int (I 10), F 11, F 12]
  | 9 => [F 0, F 1, F 2, .int (I 3), F 4, F 5, F 6, F 7, F 8, F 9, F 10, F 11, F 12, F 13, F 14, .int (I 15), .int (I 16), .int (I 17), .int (I 18), .int (I 19), .int (I 20), .int (I 21), .int (I 22), .int (I 23), .int (I 24), .int (I 25), F 26, F 27, F 28, F 29, .int (I 30), F 31]
  | _ => []
def cE (g : Cx) (w : Wd) (i : Nat) : va_E :=
  if (wsh w i).1 < 10 then .inr ((wsh w i).1, jfs (wsh w i).1 (wI w i) (fun k => jrf g (wF w i k)))
  else if (wsh w i).1 < 12 then .inl (gc g ((wsh w i).1 - 10), (wsh w i).2, .inl (wI w i))
  else .inl (gc g ((wsh w i).1 - 10), (wsh w i).2, .inr (.inr (.inr (.inr (fun j => (wF w i j).map (fun i => gb g + i))))))
def wl (g : Cx) (w : Wd) : va_W := (List.range (wn w)).map (fun i => (gb g + i, cE g w i))
theorem wl_at (g : Cx) (w : Wd) {i : Nat} (h : i < wn w) : (wl g w)[i]? = some (gb g + i, cE g w i) := by
  simp [wl, h]
theorem wl_of {g : Cx} {w : Wd} {i : Nat} {q : Nat × va_E} (h : (wl g w)[i]? = some q) : i < wn w ∧ q = (gb g + i, cE g w i) := by
  have hl : i < (wl g w).length := (List.getElem?_eq_some_iff.mp h).1
  have hi : i < wn w := by simpa [wl] using hl
  rw [wl_at g w hi] at h
  exact ⟨hi, (Option.some.inj h).symm⟩
theorem wl_D (g : Cx) (w : Wd) : va_D (gA g) (wl g w) := by
  refine ⟨fun i j p q hi hj hpq => ?_, fun k q hk => ?_⟩
  · obtain ⟨-, rfl⟩ := wl_of hi
    obtain ⟨-, rfl⟩ := wl_of hj
    simp only at hpq
    omega
  · obtain ⟨-, rfl⟩ := wl_of hk
    exact Nat.le_add_right _ _
theorem wl_len (g : Cx) (w : Wd) : (wl g w).length = wn w := by simp [wl]
theorem wl_set {g : Cx} {w w' : Wd} {a : Nat} {e : va_E} (ha : a < wn w) (hn : wn w' = wn w) (he : cE g w' a = e) (ho : ∀ i, i ≠ a → cE g w' i = cE g w i) : (wl g w).set a (gb g + a, e) = wl g w' := by
  apply List.ext_getElem?
  intro i
  by_cases hi : i < wn w
  · by_cases hia : i = a
    · subst hia
      rw [List.getElem?_set_self (by rw [wl_len]; exact hi), wl_at g w' (by rw [hn]; exact hi), he]
    · rw [List.getElem?_set_ne (Ne.symm hia), wl_at g w hi, wl_at g w' (by rw [hn]; exact hi), ho i hia]
  · rw [List.getElem?_eq_none (by rw [List.length_set, wl_len]; omega), List.getElem?_eq_none (by rw [wl_len, hn]; omega)]
theorem wl_push {g : Cx} {w : Wd} {kd n : Nat} {e : va_E} (he : cE g (pN w kd n) (wn w) = e) : wl g w ++ [(gb g + wn w, e)] = wl g (pN w kd n) := by
  apply List.ext_getElem?
  intro i
  by_cases hi : i < wn w
  · rw [List.getElem?_append_left (by rw [wl_len]; exact hi), wl_at g w hi, wl_at g _ (by rw [wn_pN]; omega)]
    congr 2
    simp only [cE, wsh_pN, wI_pN, wF_pN, if_neg (Nat.ne_of_lt hi)]
  · by_cases hia : i = wn w
    · subst hia
      rw [List.getElem?_append_right (by rw [wl_len]; exact Nat.le_refl _), wl_len, Nat.sub_self, wl_at g _ (by rw [wn_pN]; omega), he]
      rfl
    · rw [List.getElem?_eq_none (by rw [List.length_append, wl_len, List.length_singleton]; omega), List.getElem?_eq_none (by rw [wl_len, wn_pN]; omega)]
theorem cE_obj {g : Cx} {w : Wd} {a ci : Nat} (h : jK w a ci 0) (hc : ci < 10) : cE g w a = .inr (ci, jfs ci (wI w a) (fun k => jrf g (wF w a k))) := by
  simp only [cE, h.2, if_pos hc]
theorem cE_int {g : Cx} {w : Wd} {a kd n : Nat} (h : jK w a kd n) (h1 : ¬ kd < 10) (h2 : kd < 12) : cE g w a = .inl (gc g (kd - 10), n, .inl (wI w a)) := by
  simp only [cE, h.2, if_neg h1, if_pos h2]
theorem cE_ref {g : Cx} {w : Wd} {a kd n : Nat} (h : jK w a kd n) (h1 : ¬ kd < 10) (h2 : ¬ kd < 12) : cE g w a = .inl (gc g (kd - 10), n, .inr (.inr (.inr (.inr (fun j => (wF w a j).map (fun i => gb g + i)))))) := by
  simp only [cE, h.2, if_neg h1, if_neg h2]
theorem cE_sR_o {g : Cx} {w : Wd} {a i : Nat} {f : Nat → Int32} (h : i ≠ a) : cE g (sR w a f) i = cE g w i := by
  simp only [cE, wsh_sR, wF_sR, wI_sR_n w h]
theorem cE_sP_o {g : Cx} {w : Wd} {a i : Nat} {f : Nat → Option Nat} (h : i ≠ a) : cE g (sP w a f) i = cE g w i := by
  simp only [cE, wsh_sP, wI_sP, wF_sP_n w h]
/-! the words that every method is given, and what else a state must know -/
def kw : List Cond := lw_tbl.filter goodWord
theorem kw_in {w : Cond} (h : w ∈ lw_tbl) (hg : goodWord w = true) : w ∈ kw := List.mem_filter.mpr ⟨h, hg⟩
theorem kw_good (y : MethodName) (b : ByteArray) (n : Nat) (r : Option FieldType) (h : Cond.code y b n r ∈ kw) : GoodIn kw (Cond.code y b n r :: kw) := by
  intro w hw
  have hm : w ∈ kw := by
    rcases List.mem_cons.mp hw with e | e
    · rw [e]; exact h
    · exact e
  exact ⟨hm, good_of_word (List.mem_filter.mp hm).2⟩
def kcl : List vw_C := vwCl
def jtys (g : Cx) : List (ClassId × FieldType) := [(gc g 0, .byte), (gc g 1, .int), (gc g 2, .object RX0), (gc g 3, .object RX3), (gc g 4, .object RX4), (gc g 5, .object RX5)]
def jnest : List (String × Nat × MethodName × String) := [(RX2, 62, yX0_init, "StrokesHeard"), (RX8, 28, yX1_init, "StrokesHeard"), (RX8, 35, yX7_init, "StrokesHeard"), (RX8, 42, yX6_init, "StrokesHeard"), (RX8, 74, yX3_init, "StrokesHeard"), (RX8, 75, yX4_init, "StrokesHeard"), (RX4, 17, yX0_init, "StrokesHeard"), (RX4, 24, yX3_init, "StrokesHeard"), (RX2, 73, yX8_within, "StrokesHeard"), (RX2, 111, yX8_isUnder, "StrokesHeard"), (RX2, 102, yX8_held, "StrokesHeard"), (RX2, 118, yX8_strokesWithin, "StrokesHeard"), (RX1, 59, yX8_isUnder, "StrokesHeard"), (RX1, 67, yX8_strokesWithin, "StrokesHeard"), (RX1, 88, yX8_held, "StrokesHeard"), (RX3, 38, yX8_within, "StrokesHeard"), (RX3, 22, yX8_held, "StrokesHeard")]
def jarr : List String := [RX0, RX3, RX4, RX5]
def jlens : List Nat := [5, 3, 4, 3, 2, 2, 2, 2, 3]
def jbyts : List (List Int32) := [[97, 103, 97, 105, 110], [102, 101, 101], [102, 105, 110, 101], [111, 116, 104], [101, 109], [111, 116], [42, 47], [43, 45], [60, 61, 62]]
def jstr : List (Nat × String) := [(89, "again"), (95, "fee"), (97, "fine"), (134, "oth"), (136, "em"), (138, "ot"), (126, "*/"), (121, "+-"), (112, "<=>")]
def jabv (j : Nat) : Int32 := ([-1, 0, 0, 1, 2, 0] : List Int32).getD j 0
/-- what a state knows beyond the words: the classes, the static row ABOVE, the String constants, the nest's links -/
def GS (g : Cx) (s : State) : Prop :=
  va_K (gD g) kcl (jtys g) s ∧ gb g ≤ s.heap.size ∧
  va_Z "StrokesHeard" "ABOVE" "[I" (.ref (gx g 0)) (gA g) s s.heap ∧ va_T .int (gx g 0) 6 (fun j => .int (jabv j)) (gA g) s s.heap ∧
  va_Z "java/lang/String" "COMPACT_STRINGS" "Z" (.int 1) (gA g) s s.heap ∧ va_Zq "jdk/internal/util/Preconditions" "SIOOBE_FORMATTER" "Ljava/util/function/BiFunction;" (gA g) s s.heap ∧
  vk_S 9 jlens jbyts (fun i => gx g (1 + i)) (fun i => gx g (10 + i)) (gA g) s s.heap ∧ (∀ i q, jstr[i]? = some q → vk_R RX6 q.1 q.2 (gx g (1 + i)) s) ∧
  (∀ q ∈ jnest, va_Nw (.methodLinkNest q.1 q.2.1 q.2.2.1 q.2.2.2) s) ∧ ∀ C ∈ jarr, va_AO C s
theorem GS.to {g : Cx} {s U : State} {H : Heap} {locs : List Loc} (h : GS g s) (hW : s.WarmedH U.vm) (hS : va_S (gA g) s.heap H locs) (hU : U.heap = H) : GS g U := by
  obtain ⟨h1, h2, h3, h4, h5, h6, h7, h8, h9, h10⟩ := h
  have hk : ∀ a : Nat, a < s.heap.size → ¬ gA g a → U.heap[a]? = s.heap[a]? := fun a ha hn => by rw [hU]; exact hS.2.1 a ha hn
  have ha := hW.alike
  exact ⟨va_K.moved ha h1, by rw [hU]; exact Nat.le_trans h2 hS.1, (va_Z.moved ha h3).kept hk, (va_T.moved ha h4).kept hk, (va_Z.moved ha h5).kept hk, (va_Zq.moved ha h6).kept hk, (vk_S.moved ha h7).kept hk, fun i q hq => vk_R.warm hW (h8 i q hq), fun q hq => va_Nw.warmM hW (h9 q hq), fun C hC => va_AO.moved ha (h10 C hC)⟩
theorem GS.calling {g : Cx} {U : State} (h : GS g U) (f : JFrame) (mk : MethodId) (a : Array Value) : GS g (U.calling f mk a) := by
  obtain ⟨h1, h2, h3, h4, h5, h6, h7, h8, h9, h10⟩ := h
  have ha : U.vm.Alike (U.calling f mk a).vm := Vm.Alike.refl U.vm
  exact ⟨va_K.moved ha h1, h2, va_Z.moved ha h3, va_T.moved ha h4, va_Z.moved ha h5, va_Zq.moved ha h6, vk_S.moved ha h7, fun i q hq => vk_R.same (u := U) rfl (h8 i q hq), fun q hq => va_Nw.same (u := U) rfl rfl (h9 q hq), fun C hC => va_AO.moved ha (h10 C hC)⟩
/-! runs -/
def jrm (d kc ks : Nat) : Room := { frames := d, cells := kc, slots := ks, locals := 40 * d }
def jasc : Nat → List (Option Value) → List (Nat × Value)
  | _, [] => []
  | i, none :: l => jasc (i + 1) l
  | i, some v :: l => (i, v) :: jasc (i + 1) l
def JX (g : Cx) (own : String) (cc : ByteArray) (nL : Nat) (ret : Option FieldType) (nm : String) (p : Program) (s : State) (m : MethodId) (args : Array Value) (meth : Method) (c : Code) : Prop :=
  CallFix p m c cc nL s args kw own ∧ meth.sig.returnType = ret ∧ meth.locks = false ∧ meth.name = nm ∧ GS g s
def Rp (g : Cx) (w : Wd) (s : State) (H : Heap) (locs : List Loc) : Prop := H.size = gb g + wn w ∧ va_P (gD g) kcl (wl g w) H ∧ va_S (gA g) s.heap H locs
def QQ (g : Cx) (Q : Option Value → Wd → Prop) : Array Value → State → Outcome → State → Prop := fun _ st oc t =>
  (∃ v w', oc = .returned v ∧ Q v w' ∧ t.heap.size = gb g + wn w' ∧ va_P (gD g) kcl (wl g w') t.heap) ∧ va_F (gA g) st t
def RR (g : Cx) (own : String) (cc : ByteArray) (nL : Nat) (ret : Option FieldType) (nm : String) (d kc ks rk rn pc : Nat) (lv : List (Option Value)) (st : List Value) (w : Wd) (Q : Option Value → Wd → Prop) : Prop :=
  ∀ (p : Program) (e : Env) (s : State) (m : MethodId) (args : Array Value) (below : List Frame) (meth : Method) (c : Code) (H : Heap) (locs : List Loc) (cells slots : Nat) (ls : Array Slot),
    JX g own cc nL ret nm p s m args meth c → Rp g w s H locs → cells + rk ≤ kc → slots + rn ≤ ks → lv_has ls nL (jasc 0 lv) →
    W p (gl g) e (jrm d kc ks) s m args below meth c H locs cells slots (MQ below (QQ g Q) args s kc ks (gA g)) (F0 m pc ls st)
/-- a method's contract over the pure world -/
def CC (g : Cx) (y : MethodName) (cc : ByteArray) (nL : Nat) (ret : Option FieldType) (d kc ks : Nat) (av : List Value) (w : Wd) (Q : Option Value → Wd → Prop) : Prop :=
  Met (gl g) y (Cond.code y cc nL ret :: kw) (jrm d kc ks) (va_Pc av (fun U => GS g U ∧ U.heap.size = gb g + wn w ∧ va_P (gD g) kcl (wl g w) U.heap)) (QQ g Q) kc ks (gA g)
def CI (g : Cx) (y : MethodName) (cc : ByteArray) (nL : Nat) (ret : Option FieldType) (d kc ks : Nat) (av : List Value) (w : Wd) (Q : Int32 → Wd → Prop) : Prop := CC g y cc nL ret d kc ks av w (fun v w' => ∃ r, v = some (.int r) ∧ Q r w')
def CV (g : Cx) (y : MethodName) (cc : ByteArray) (nL : Nat) (d kc ks : Nat) (av : List Value) (w : Wd) (Q : Wd → Prop) : Prop := CC g y cc nL none d kc ks av w (fun v w' => v = none ∧ Q w')
def CR (g : Cx) (y : MethodName) (cc : ByteArray) (nL : Nat) (ret : Option FieldType) (d kc ks : Nat) (av : List Value) (w : Wd) (Q : Value → Wd → Prop) : Prop := CC g y cc nL ret d kc ks av w (fun v w' => ∃ r, v = some r ∧ Q r w')
theorem jasc_mem {n : Nat} {lv : List (Option Value)} {i : Nat} {v : Value} (h : lv[i]? = some (some v)) : (n + i, v) ∈ jasc n lv := by
  induction lv generalizing n i with
  | nil => simp at h
  | cons a l ih =>
    cases i with
    | zero =>
      simp at h
      subst h
      simp [jasc]
    | succ i =>
      simp at h
      have := ih (n := n + 1) h
      rw [show n + 1 + i = n + (i + 1) by omega] at this
      cases a with
      | none => simpa [jasc] using this
      | some u => simp [jasc, this]
theorem jasc_of {n : Nat} {lv : List (Option Value)} {q : Nat × Value} (h : q ∈ jasc n lv) : n ≤ q.1 ∧ lv[q.1 - n]? = some (some q.2) := by
  induction lv generalizing n with
  | nil => simp [jasc] at h
  | cons a l ih =>
    cases a with
    | none =>
      obtain ⟨h1, h2⟩ := ih (n := n + 1) (by simpa [jasc] using h)
      refine ⟨by omega, ?_⟩
      rw [show q.1 - n = (q.1 - (n + 1)) + 1 by omega]
      simpa using h2
    | some u =>
      rcases List.mem_cons.mp (by simpa [jasc] using h) with e | e
      · subst e; simp
      · obtain ⟨h1, h2⟩ := ih (n := n + 1) e
        refine ⟨by omega, ?_⟩
        rw [show q.1 - n = (q.1 - (n + 1)) + 1 by omega]
        simpa using h2
theorem jat {ls : Array Slot} {nL : Nat} {lv : List (Option Value)} (h : lv_has ls nL (jasc 0 lv)) {i : Nat} {v : Value} (hi : lv[i]? = some (some v)) : ls[i]? = some (.val v) := by
  have h1 := jasc_mem (n := 0) hi
  rw [Nat.zero_add] at h1
  exact h.2.2 (i, v) h1
def jc1 : Option Value → Bool
  | none => true
  | some v => v.category == 1
theorem jstore {ls : Array Slot} {nL i : Nat} {lv : List (Option Value)} {v : Value} (hc : ∀ k, k + 1 = i → jc1 (lv.getD k none) = true) (h : lv_has ls nL ((i, v) :: (jasc 0 lv).filter (fun q => !(q.1 == i) && !(q.1 + 1 == i && q.2.category == 2)))) : lv_has ls nL (jasc 0 (lv.set i (some v))) := by
  refine ⟨h.1, h.2.1, fun q hq => ?_⟩
  obtain ⟨-, h1⟩ := jasc_of hq
  rw [Nat.sub_zero] at h1
  by_cases he : i = q.1
  · subst he
    have hl : q.1 < lv.length := by
      have := (List.getElem?_eq_some_iff.mp h1).1
      simpa using this
    rw [List.getElem?_set_self hl] at h1
    have h2 : v = q.2 := by simpa using h1
    have := h.2.2 (q.1, v) List.mem_cons_self
    rw [h2] at this
    exact this
  · rw [List.getElem?_set_ne he] at h1
    apply h.2.2
    refine List.mem_cons_of_mem _ (List.mem_filter.mpr ⟨by have := jasc_mem (n := 0) h1; rw [Nat.zero_add] at this; exact this, ?_⟩)
    have e1 : (q.1 == i) = false := by simpa using Ne.symm he
    have e2 : (q.1 + 1 == i && q.2.category == 2) = false := by
      by_cases h3 : q.1 + 1 = i
      · have h4 := hc q.1 h3
        rw [List.getD_eq_getElem?_getD, h1] at h4
        simp only [Option.getD_some, jc1] at h4
        simp at h4
        simp [h4]
      · have : (q.1 + 1 == i) = false := by simpa using h3
        rw [this]; rfl
    rw [e1, e2]; rfl
