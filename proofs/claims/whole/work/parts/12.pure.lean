/-! WHAT THE NUMBERS MEAN: s is the row in which all that images keep lies (the reference's own s) -/
theorem jlit (n : Nat) : (OfNat.ofNat n : Int32) = nI n := rfl
def sN (s : Nat → Int32) (i : Nat) : Nat := (s i).toNatClampNeg
def Nb (s : Nat → Int32) (i n : Nat) : Prop := s i = nI (sN s i) ∧ sN s i ≤ n
theorem Nb.of {s : Nat → Int32} {i n j : Nat} (h : s i = nI j) (hj : j ≤ n) (hn : n < 2 ^ 31) : Nb s i n := by
  have e : sN s i = j := by unfold sN; rw [h, nI_clamp (by omega)]
  exact ⟨by rw [e]; exact h, by rw [e]; exact hj⟩
theorem sN_of {s : Nat → Int32} {i j : Nat} (h : s i = nI j) (hj : j < 2 ^ 31) : sN s i = j := by unfold sN; rw [h, nI_clamp hj]
/-- the last text of a key among the first n; -1 -/
def cntF (s : Nat → Int32) (key : Int32) : Nat → Int32
  | 0 => -1
  | n + 1 => if s (40 + 200 * n) = key then nI n else cntF s key n
def jnF (c x y : Int32) : Int32 :=
  if c.toInt = 43 then x + y else if c.toInt = 45 then x - y else if c.toInt = 42 then x * y
  else if c.toInt = 47 then (if y = 0 then 0 else x / y)
  else if c.toInt = 60 then jb (x.toInt < y.toInt) else if c.toInt = 62 then jb (y.toInt < x.toInt) else if c.toInt = 61 then jb (x.toInt = y.toInt)
  else if c.toInt = 38 then jb (¬ x = 0 ∧ ¬ y = 0) else jb (¬ x = 0 ∨ ¬ y = 0)
/-- one step of a text over a pile (its top first) -/
def stF (nm : Int32 → Int32) (what v : Int32) (st : List Int32) : List Int32 :=
  if what.toInt = 2 then
    (if v.toInt = 33 then (match st with | [] => [] | x :: r => jb (x = 0) :: r) else (match st with | y :: x :: r => jnF v x y :: r | r => r))
  else (if what.toInt = 0 then v else nm v) :: st
def wkF (s : Nat → Int32) (t : Nat) (nm : Int32 → Int32) : Nat → List Int32
  | 0 => []
  | k + 1 => stF nm (s (40 + 200 * t + 4 + 2 * k)) (s (40 + 200 * t + 4 + 2 * k + 1)) (wkF s t nm k)
/-- how deep the pile is behind k steps -/
def dpF (s : Nat → Int32) (t : Nat) : Nat → Nat
  | 0 => 0
  | k + 1 => if (s (40 + 200 * t + 4 + 2 * k)).toInt = 2 then (if (s (40 + 200 * t + 4 + 2 * k + 1)).toInt = 33 then dpF s t k else dpF s t k - 1) else dpF s t k + 1
def nameOk (key : Nat) (v : Int32) : Prop := (key = 0 ∧ (v = 111 ∨ v = 116 ∨ v = 104)) ∨ (key = 1 ∧ (v = 101 ∨ v = 109)) ∨ (key = 2 ∧ (v = 111 ∨ v = 116))
/-- a step that can be done on a pile of d -/
def stOk (key : Nat) (what v : Int32) (d : Nat) : Prop :=
  (what.toInt = 0 ∧ 0 ≤ v.toInt) ∨ (what.toInt = 1 ∧ nameOk key v) ∨ (what.toInt = 2 ∧ v.toInt = 33 ∧ 1 ≤ d) ∨ (what.toInt = 2 ∧ (v = 38 ∨ v = 42 ∨ v = 43 ∨ v = 45 ∨ v = 47 ∨ v = 60 ∨ v = 61 ∨ v = 62 ∨ v = 124) ∧ 2 ≤ d)
def VP (s : Nat → Int32) (t n : Nat) : Prop := ∀ k, k < n → stOk (sN s (40 + 200 * t)) (s (40 + 200 * t + 4 + 2 * k)) (s (40 + 200 * t + 4 + 2 * k + 1)) (dpF s t k)
def tMany (s : Nat → Int32) (t : Nat) : Nat := sN s (40 + 200 * t + 2)
def TxOk (s : Nat → Int32) (t : Nat) : Prop := Nb s (40 + 200 * t) 2 ∧ Nb s (40 + 200 * t + 2) 93 ∧ VP s t (tMany s t) ∧ 1 ≤ dpF s t (tMany s t)
def evF (s : Nat → Int32) (t : Nat) (nm : Int32 → Int32) : Int32 := (wkF s t nm (tMany s t)).getLastD 0
def PR : List Int32 → (Nat → Int32) → Prop
  | [], _ => True
  | x :: r, p => p r.length = x ∧ PR r p
theorem PR.keep {r : List Int32} {p q : Nat → Int32} (h : PR r p) (e : ∀ i, i < r.length → q i = p i) : PR r q := by
  induction r with
  | nil => trivial
  | cons x r ih =>
    obtain ⟨h1, h2⟩ := h
    exact ⟨by rw [e _ (by simp)]; exact h1, ih h2 (fun i hi => e i (by simp; omega))⟩
theorem PR.bottom {r : List Int32} {p : Nat → Int32} (h : PR r p) (hn : 1 ≤ r.length) : p 0 = r.getLastD 0 := by
  induction r with
  | nil => simp at hn
  | cons x r ih =>
    obtain ⟨h1, h2⟩ := h
    cases r with
    | nil => exact h1
    | cons y r =>
      rw [ih h2 (by simp)]
      simp [List.getLastD]
theorem PR.put {r : List Int32} {p : Nat → Int32} (h : PR r p) (x : Int32) : PR (x :: r) (upd p r.length x) := ⟨pk_us, h.keep (fun i hi => pk_un (by omega))⟩
/-- the pile is as deep as dpF says -/
theorem wk_len {s : Nat → Int32} {t n : Nat} (h : VP s t n) (nm : Int32 → Int32) : ∀ k, k ≤ n → (wkF s t nm k).length = dpF s t k
  | 0, _ => rfl
  | k + 1, hk => by
    have ih := wk_len h nm k (by omega)
    have hs := h k (by omega)
    simp only [wkF, dpF]
    unfold stF
    generalize s (40 + 200 * t + 4 + 2 * k) = wh at hs ⊢
    generalize s (40 + 200 * t + 4 + 2 * k + 1) = v at hs ⊢
    rcases hs with ⟨h1, h2⟩ | ⟨h1, h2⟩ | ⟨h1, h2, h3⟩ | ⟨h1, h2, h3⟩
    · have h9 : ¬ wh.toInt = 2 := by omega
      simp only [if_neg h9, List.length_cons, ih]
    · have h9 : ¬ wh.toInt = 2 := by omega
      simp only [if_neg h9, List.length_cons, ih]
    · rw [if_pos h1, if_pos h2, if_pos h1, if_pos h2]
      cases hw : wkF s t nm k with
      | nil => rw [hw] at ih; simp at ih; omega
      | cons x r => rw [hw] at ih; simpa using ih
    · have h4 : ¬ v.toInt = 33 := by
        rcases h2 with rfl | rfl | rfl | rfl | rfl | rfl | rfl | rfl | rfl <;> decide
      rw [if_pos h1, if_neg h4, if_pos h1, if_neg h4]
      cases hw : wkF s t nm k with
      | nil => rw [hw] at ih; simp at ih; omega
      | cons y r =>
        cases r with
        | nil => rw [hw] at ih; simp at ih; omega
        | cons x r =>
          rw [hw] at ih
          simp at ih ⊢
          omega
theorem dp_le (s : Nat → Int32) (t : Nat) : ∀ k, dpF s t k ≤ k
  | 0 => Nat.le_refl _
  | k + 1 => by
    have ih := dp_le s t k
    simp only [dpF]
    split
    · split <;> omega
    · omega
/-- only the names of the key are asked -/
theorem wk_congr {s : Nat → Int32} {t n : Nat} (h : VP s t n) {nm nm' : Int32 → Int32} (e : ∀ v, nameOk (sN s (40 + 200 * t)) v → nm v = nm' v) : ∀ k, k ≤ n → wkF s t nm k = wkF s t nm' k
  | 0, _ => rfl
  | k + 1, hk => by
    have ih := wk_congr h e k (by omega)
    have hs := h k (by omega)
    simp only [wkF, ih]
    unfold stF
    generalize s (40 + 200 * t + 4 + 2 * k) = wh at hs ⊢
    generalize s (40 + 200 * t + 4 + 2 * k + 1) = v at hs ⊢
    rcases hs with ⟨h1, h2⟩ | ⟨h1, h2⟩ | ⟨h1, h2, h3⟩ | ⟨h1, h2, h3⟩
    · have h9 : ¬ wh.toInt = 2 := by omega
      simp only [if_neg h9, if_pos h1]
    · have h9 : ¬ wh.toInt = 2 := by omega
      have h8 : ¬ wh.toInt = 0 := by omega
      simp only [if_neg h9, if_neg h8, e v h2]
    · simp only [if_pos h1]
    · simp only [if_pos h1]
theorem ev_congr {s : Nat → Int32} {t : Nat} (h : TxOk s t) {nm nm' : Int32 → Int32} (e : ∀ v, nameOk (sN s (40 + 200 * t)) v → nm v = nm' v) : evF s t nm = evF s t nm' := by
  unfold evF
  rw [wk_congr h.2.2.1 e _ (Nat.le_refl _)]
/-- clocks: kind, off, tone, all small numbers; which minute a clock strikes again at, in its hour h -/
def nmA (o t h : Int32) (v : Int32) : Int32 := if v = 111 then o else if v = 116 then t else if v = 104 then h else 0
def nmF (e m : Int32) (v : Int32) : Int32 := if v = 101 then e else if v = 109 then m else 0
def nmI (o t : Int32) (v : Int32) : Int32 := if v = 111 then o else if v = 116 then t else 0
def clipF (v : Int32) : Nat := if v.toInt < 1 then 1 else if 14 < v.toInt then 14 else v.toNatClampNeg
def agW (s : Nat → Int32) (o tn : Nat) (h : Nat) : Nat :=
  if (cntF s 0 (sN s 1)).toInt < 0 then 2 else clipF (evF s (cntF s 0 (sN s 1)).toNatClampNeg (nmA (nI o) (nI tn) (nI h)))
def owF (o t : Nat) : Nat := (t + 720 - o) % 720
def hrF (own : Nat) : Nat := if own < 60 then 12 else own / 60
def ahF (kd h : Nat) : Nat := if kd = 3 then h + 4 else if kd = 4 then h / 5 + h % 5 else h
def skF (kd : Nat) (ag : Nat → Nat) (own : Nat) : Nat :=
  if own % 60 = 0 then ahF kd (hrF own)
  else if kd = 1 ∨ kd = 3 then (if own % 60 % 15 = 0 then own % 60 / 15 else 0)
  else if kd = 2 ∨ kd = 4 then (if own % 60 < 15 ∧ own % 60 = ag (hrF own) then ahF kd (hrF own) else 0)
  else if kd = 5 then (if own % 60 = 30 then 1 else 0) else 0
/-- strokes of a clock of a kind, late by o, of a tone, at a time -/
def stkW (s : Nat → Int32) (kd o tn t : Nat) : Nat := skF kd (agW s o tn) (owF o t)
def stkF (s : Nat → Int32) (k t : Nat) : Nat := stkW s (sN s (10 + 3 * k + 0)) (sN s (10 + 3 * k + 1)) (sN s (10 + 3 * k + 2)) t
def totF (s : Nat → Int32) (t : Nat) : Nat → Nat
  | 0 => 0
  | k + 1 => totF s t k + stkF s k t
def ClkOk (s : Nat → Int32) : Prop := ∀ k, k < 6 → Nb s (10 + 3 * k + 0) 5 ∧ Nb s (10 + 3 * k + 1) 59 ∧ Nb s (10 + 3 * k + 2) 9
def Gd (s : Nat → Int32) : Prop :=
  Nb s 0 6 ∧ Nb s 1 14 ∧ Nb s 2 20000 ∧ Nb s 6 100 ∧ Nb s 7 100 ∧ Nb s 8 12 ∧ ClkOk s ∧ (∀ j, j < 12 → Nb s (28 + j) 97) ∧ ∀ t, t < sN s 1 → TxOk s t
theorem cnt_rng (s : Nat → Int32) (key : Int32) : ∀ n, n < 2 ^ 31 → cntF s key n = -1 ∨ ∃ t, t < n ∧ cntF s key n = nI t ∧ s (40 + 200 * t) = key
  | 0, _ => Or.inl rfl
  | n + 1, h => by
    simp only [cntF]
    split
    · rename_i e
      exact Or.inr ⟨n, by omega, rfl, e⟩
    · rcases cnt_rng s key n (by omega) with e | ⟨t, h1, h2, h3⟩
      · exact Or.inl e
      · exact Or.inr ⟨t, by omega, h2, h3⟩
theorem clip_rng (v : Int32) : 1 ≤ clipF v ∧ clipF v ≤ 14 := by
  unfold clipF
  split
  · omega
  · split
    · omega
    · have : v.toNatClampNeg = v.toInt.toNat := rfl
      omega
theorem agW_rng (s : Nat → Int32) (o tn h : Nat) : 1 ≤ agW s o tn h ∧ agW s o tn h ≤ 14 := by
  unfold agW
  split
  · omega
  · exact clip_rng _
theorem hr_rng {own : Nat} (h : own < 720) : 1 ≤ hrF own ∧ hrF own ≤ 12 := by
  unfold hrF
  split <;> omega
theorem ah_le {kd h : Nat} (hh : h ≤ 12) : ahF kd h ≤ 16 := by
  unfold ahF
  split
  · omega
  · split <;> omega
theorem sk_le {kd own : Nat} {ag : Nat → Nat} (h : own < 720) : skF kd ag own ≤ 16 := by
  have h1 := ah_le (kd := kd) (hr_rng h).2
  unfold skF
  split
  · exact h1
  · split
    · split <;> omega
    · split
      · split <;> omega
      · split
        · split <;> omega
        · omega
theorem ow_lt (o t : Nat) : owF o t < 720 := Nat.mod_lt _ (by decide)
theorem stk_le (s : Nat → Int32) (k t : Nat) : stkF s k t ≤ 16 := sk_le (ow_lt _ _)
theorem tot_le (s : Nat → Int32) (t : Nat) : ∀ n, totF s t n ≤ 16 * n
  | 0 => Nat.le_refl _
  | n + 1 => by
    have := tot_le s t n
    have := stk_le s n t
    simp only [totF]
    omega
theorem inc1 (t : Nat) : nI t + Int32.ofInt 1 = nI (t + 1) := nI_1 t
theorem dec1 {t : Nat} (h : 1 ≤ t) : nI t + Int32.ofInt (-1) = nI (t - 1) := by
  obtain ⟨u, rfl⟩ : ∃ u, t = u + 1 := ⟨t - 1, by omega⟩
  rw [Nat.add_sub_cancel]
  exact pk_m1 u
theorem sub1 {t : Nat} (h : 1 ≤ t) : nI t - 1 = nI (t - 1) := by
  obtain ⟨u, rfl⟩ : ∃ u, t = u + 1 := ⟨t - 1, by omega⟩
  rw [Nat.add_sub_cancel]
  exact nI_pred u
theorem div_m1 (x : Int32) : x / (-1) = -x := by
  have h : (-1 : Int32).toInt = -1 := by decide
  rw [← Int32.toInt_inj, Int32.toInt_div, h, Int.tdiv_neg, Int.tdiv_one, Int32.toInt_neg]
section
variable {s : Nat → Int32} {t n k : Nat} {nm : Int32 → Int32} {p : Nat → Int32}
theorem PR_num (hV : VP s t n) (hk : k < n) (h1 : (s (40 + 200 * t + 4 + 2 * k)).toInt = 0) (h : PR (wkF s t nm k) p) : PR (wkF s t nm (k + 1)) (upd p (dpF s t k) (s (40 + 200 * t + 4 + 2 * k + 1))) ∧ dpF s t (k + 1) = dpF s t k + 1 := by
  have h9 : ¬ (s (40 + 200 * t + 4 + 2 * k)).toInt = 2 := by omega
  simp only [wkF, stF, dpF, if_neg h9, if_pos h1, and_true]
  have := h.put (s (40 + 200 * t + 4 + 2 * k + 1))
  rwa [wk_len hV nm k (by omega)] at this
theorem PR_name (hV : VP s t n) (hk : k < n) (h1 : (s (40 + 200 * t + 4 + 2 * k)).toInt = 1) (h : PR (wkF s t nm k) p) : PR (wkF s t nm (k + 1)) (upd p (dpF s t k) (nm (s (40 + 200 * t + 4 + 2 * k + 1)))) ∧ dpF s t (k + 1) = dpF s t k + 1 := by
  have h9 : ¬ (s (40 + 200 * t + 4 + 2 * k)).toInt = 2 := by omega
  have h8 : ¬ (s (40 + 200 * t + 4 + 2 * k)).toInt = 0 := by omega
  simp only [wkF, stF, dpF, if_neg h9, if_neg h8, and_true]
  have := h.put (nm (s (40 + 200 * t + 4 + 2 * k + 1)))
  rwa [wk_len hV nm k (by omega)] at this
theorem PR_not (hV : VP s t n) (hk : k < n) (h1 : (s (40 + 200 * t + 4 + 2 * k)).toInt = 2) (h2 : (s (40 + 200 * t + 4 + 2 * k + 1)).toInt = 33) (h3 : 1 ≤ dpF s t k) (h : PR (wkF s t nm k) p) : PR (wkF s t nm (k + 1)) (upd p (dpF s t k - 1) (jb (p (dpF s t k - 1) = 0))) ∧ dpF s t (k + 1) = dpF s t k := by
  have hl := wk_len hV nm k (by omega)
  simp only [wkF, stF, dpF, if_pos h1, if_pos h2, and_true]
  cases hw : wkF s t nm k with
  | nil => rw [hw] at hl; simp at hl; omega
  | cons x r =>
    rw [hw] at hl h
    have e : dpF s t k - 1 = r.length := by simp at hl; omega
    rw [e, h.1]
    exact h.2.put _
theorem PR_bin (hV : VP s t n) (hk : k < n) (h1 : (s (40 + 200 * t + 4 + 2 * k)).toInt = 2) (h2 : ¬ (s (40 + 200 * t + 4 + 2 * k + 1)).toInt = 33) (h3 : 2 ≤ dpF s t k) (h : PR (wkF s t nm k) p) : PR (wkF s t nm (k + 1)) (upd p (dpF s t k - 1 - 1) (jnF (s (40 + 200 * t + 4 + 2 * k + 1)) (p (dpF s t k - 1 - 1)) (p (dpF s t k - 1)))) ∧ dpF s t (k + 1) = dpF s t k - 1 := by
  have hl := wk_len hV nm k (by omega)
  simp only [wkF, stF, dpF, if_pos h1, if_neg h2, and_true]
  cases hw : wkF s t nm k with
  | nil => rw [hw] at hl; simp at hl; omega
  | cons y r =>
    cases r with
    | nil => rw [hw] at hl; simp at hl; omega
    | cons x r =>
      rw [hw] at hl h
      have e : dpF s t k - 1 = r.length + 1 := by simp at hl; omega
      have e2 : dpF s t k - 1 - 1 = r.length := by omega
      have h4 := h.1
      have h5 := h.2.1
      simp only [List.length_cons] at h4
      rw [e2, e, h5, h4]
      exact h.2.2.put _
end
theorem name_ix {key : Nat} {v : Int32} (h : nameOk key v) : v = nI v.toNatClampNeg ∧ v.toNatClampNeg < 128 := by
  rcases h with ⟨-, rfl | rfl | rfl⟩ | ⟨-, rfl | rfl⟩ | ⟨-, rfl | rfl⟩ <;> decide
theorem sign_ne {v : Int32} (h : v = 38 ∨ v = 42 ∨ v = 43 ∨ v = 45 ∨ v = 47 ∨ v = 60 ∨ v = 61 ∨ v = 62 ∨ v = 124) : ¬ v.toInt = 33 := by
  rcases h with rfl | rfl | rfl | rfl | rfl | rfl | rfl | rfl | rfl <;> decide
