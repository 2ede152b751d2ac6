-- the pure reader: what it keeps
theorem i32n {a b : Int32} (h : decide (a = b) = false) : ¬ a = b := of_decide_eq_false h
theorem runE_all {p : Nat → Bool} : ∀ f b j, b ≤ j → j < runE p f b → p j = true
  | 0, b, j, h1, h2 => by simp only [runE] at h2; omega
  | f + 1, b, j, h1, h2 => by
    simp only [runE] at h2
    by_cases h : p b = true
    · rw [if_pos h] at h2
      by_cases e : j = b
      · rw [e]; exact h
      · exact runE_all f (b + 1) j (by omega) h2
    · rw [if_neg h] at h2; omega
theorem numF_n {T : Nat → Int32} {bg : Nat} : ∀ k, k ≤ 4 → (∀ j, j < k → 48 ≤ (T (bg + j)).toInt ∧ (T (bg + j)).toInt ≤ 57) → ∃ m, m < 10 ^ k ∧ numF T bg k = nI m
  | 0, _, _ => ⟨0, by decide, rfl⟩
  | k + 1, hk, h => by
    obtain ⟨m, hm, e⟩ := numF_n k (by omega) (fun j hj => h j (by omega))
    obtain ⟨h1, h2⟩ := h k (by omega)
    obtain ⟨c, hc, ec⟩ := i_of (n := 58) (x := T (bg + k)) (by omega) (by omega)
    have h3 : 48 ≤ c := by rw [ec, i_nI (by omega)] at h1; omega
    refine ⟨10 * m + c - 48, by rw [Nat.pow_succ]; omega, ?_⟩
    simp only [numF]
    rw [if_pos (by omega), e, ec, jlit 10, jlit 48, pk_mul, nI_add, pk_sub (by omega)]
/-- a token as the reader makes it -/
def TkI (T : Nat → Int32) (n : Nat) (k : Tok) : Prop :=
  k.2.1 ≤ n ∧ k.1 ≤ k.2.1 ∧ (¬ k.2.2.1 = 0 → k.1 < k.2.1) ∧ (k.2.2.1 = 3 → k.2.2.2.2 = T k.1) ∧ (k.2.2.1 = 1 → k.2.2.2.2 = if k.2.1 - k.1 = 1 then T k.1 else 0) ∧
  (k.2.2.1 = 2 → k.2.1 - k.1 ≤ 4 ∧ k.2.2.2.1 = numF T k.1 (k.2.1 - k.1) ∧ ∀ j, k.1 ≤ j → j < k.2.1 → tpD T n j) ∧ (k.2.2.1 = 0 ∨ k.2.2.1 = 1 ∨ k.2.2.1 = 2 ∨ k.2.2.1 = 3 ∨ k.2.2.1 = 4)
theorem tokF_I {T : Nat → Int32} {n : Nat} {k : Tok} (hk : k.2.1 ≤ n) : TkI T n (tokF T n k) ∧ k.2.1 ≤ (tokF T n k).1 := by
  have h0 := runE_le (spB T n) (n - k.2.1) k.2.1
  unfold tokF
  generalize runE (spB T n) (n - k.2.1) k.2.1 = bg at h0 ⊢
  by_cases h1 : bg = n
  · rw [if_pos h1]
    exact ⟨⟨Nat.le_refl _, Nat.le_refl _, fun h => absurd rfl h, fun h => absurd h (i32n (a := 0) (b := 3) (by decide)), fun h => absurd h (i32n (a := 0) (b := 1) (by decide)), fun h => absurd h (i32n (a := 0) (b := 2) (by decide)), Or.inl rfl⟩, hk⟩
  · rw [if_neg h1]
    by_cases h2 : tpL T n bg
    · rw [if_pos h2]
      have h3 := runE_le (ltB T n) (n - bg) bg
      have h4 := runE_1 (p := ltB T n) (f := n - bg) (b := bg) (decide_eq_true h2) (by omega)
      generalize runE (ltB T n) (n - bg) bg = e at h3 h4 ⊢
      by_cases hc : (0 < k.2.1 ∧ (k.2.2.1 = 1 ∨ k.2.2.1 = 2)) ∧ k.2.1 = bg
      · rw [if_pos hc]
        exact ⟨⟨(show e ≤ n by omega), (show bg ≤ e by omega), fun _ => (show bg < e by omega), fun h => absurd h (i32n (a := 4) (b := 3) (by decide)), fun h => absurd h (i32n (a := 4) (b := 1) (by decide)), fun h => absurd h (i32n (a := 4) (b := 2) (by decide)), Or.inr (Or.inr (Or.inr (Or.inr rfl)))⟩, (show k.2.1 ≤ bg by omega)⟩
      · rw [if_neg hc]
        exact ⟨⟨(show e ≤ n by omega), (show bg ≤ e by omega), fun _ => (show bg < e by omega), fun h => absurd h (i32n (a := 1) (b := 3) (by decide)), fun _ => rfl, fun h => absurd h (i32n (a := 1) (b := 2) (by decide)), Or.inr (Or.inl rfl)⟩, (show k.2.1 ≤ bg by omega)⟩
    · rw [if_neg h2]
      by_cases h5 : tpD T n bg
      · rw [if_pos h5]
        have h3 := runE_le (dgB T n) (n - bg) bg
        have h4 := runE_1 (p := dgB T n) (f := n - bg) (b := bg) (decide_eq_true h5) (by omega)
        have h6 := runE_all (p := dgB T n) (n - bg) bg
        generalize runE (dgB T n) (n - bg) bg = e at h3 h4 h6 ⊢
        by_cases hc : ((0 < k.2.1 ∧ (k.2.2.1 = 1 ∨ k.2.2.1 = 2)) ∧ k.2.1 = bg) ∨ 4 < e - bg
        · rw [if_pos hc]
          exact ⟨⟨(show e ≤ n by omega), (show bg ≤ e by omega), fun _ => (show bg < e by omega), fun h => absurd h (i32n (a := 4) (b := 3) (by decide)), fun h => absurd h (i32n (a := 4) (b := 1) (by decide)), fun h => absurd h (i32n (a := 4) (b := 2) (by decide)), Or.inr (Or.inr (Or.inr (Or.inr rfl)))⟩, (show k.2.1 ≤ bg by omega)⟩
        · rw [if_neg hc]
          exact ⟨⟨(show e ≤ n by omega), (show bg ≤ e by omega), fun _ => (show bg < e by omega), fun h => absurd h (i32n (a := 2) (b := 3) (by decide)), fun h => absurd h (i32n (a := 2) (b := 1) (by decide)), fun _ => ⟨(show e - bg ≤ 4 by omega), rfl, fun j h7 h8 => of_decide_eq_true (h6 j h7 h8)⟩, Or.inr (Or.inr (Or.inl rfl))⟩, (show k.2.1 ≤ bg by omega)⟩
      · rw [if_neg h5]
        exact ⟨⟨(show bg + 1 ≤ n by omega), (show bg ≤ bg + 1 by omega), fun _ => (show bg < bg + 1 by omega), fun _ => rfl, fun h => absurd h (i32n (a := 3) (b := 1) (by decide)), fun h => absurd h (i32n (a := 3) (b := 2) (by decide)), Or.inr (Or.inr (Or.inr (Or.inl rfl)))⟩, (show k.2.1 ≤ bg by omega)⟩
def dpG (r : Nat → Int32) (a0 : Nat) : Nat → Nat
  | 0 => 0
  | k + 1 => if (r (a0 + 2 * k)).toInt = 2 then (if (r (a0 + 2 * k + 1)).toInt = 33 then dpG r a0 k else dpG r a0 k - 1) else dpG r a0 k + 1
theorem dpG_F (s : Nat → Int32) (t : Nat) : ∀ k, dpF s t k = dpG s (40 + 200 * t + 4) k
  | 0 => rfl
  | k + 1 => by simp only [dpF, dpG, dpG_F s t k]
theorem dpG_c {r r' : Nat → Int32} {a0 : Nat} : ∀ k, (∀ j, j < a0 + 2 * k → r' j = r j) → dpG r' a0 k = dpG r a0 k
  | 0, _ => rfl
  | k + 1, h => by
    simp only [dpG]
    rw [dpG_c k (fun j hj => h j (by omega)), h (a0 + 2 * k) (by omega), h (a0 + 2 * k + 1) (by omega)]
/-- outside of the steps from p's on, below B, the row is the same -/
def Fr (a0 B : Nat) (p q : PS) : Prop := ∀ j, j < a0 + 2 * p.2.2.2.1 ∨ a0 + 2 * B ≤ j → q.2.2.2.2.2 j = p.2.2.2.2.2 j
/-- from p to q: signs read are sg more than steps laid, the pile is de higher, all steps between can be done -/
def Wk (key a0 B : Nat) (sg de : Int) (p q : PS) : Prop :=
  p.2.2.2.1 ≤ q.2.2.2.1 ∧ (q.2.2.2.1 : Int) - p.2.2.2.1 + sg ≤ (q.1.1 : Int) - p.1.1 ∧ Fr a0 B p q ∧
  (∀ k, p.2.2.2.1 ≤ k → k < q.2.2.2.1 → stOk key (q.2.2.2.2.2 (a0 + 2 * k)) (q.2.2.2.2.2 (a0 + 2 * k + 1)) (dpG q.2.2.2.2.2 a0 k)) ∧ (dpG q.2.2.2.2.2 a0 q.2.2.2.1 : Int) = dpG p.2.2.2.2.2 a0 p.2.2.2.1 + de
theorem Fr.tr {a0 B : Nat} {p q r : PS} (h1 : Fr a0 B p q) (hl : p.2.2.2.1 ≤ q.2.2.2.1) (h2 : Fr a0 B q r) : Fr a0 B p r := fun j hj => (h2 j (by omega)).trans (h1 j hj)
theorem Wk.tr {key a0 B : Nat} {sg1 de1 sg2 de2 sg de : Int} {p q r : PS} (h1 : Wk key a0 B sg1 de1 p q) (h2 : Wk key a0 B sg2 de2 q r) (hs : sg ≤ sg1 + sg2) (hd : de = de1 + de2) : Wk key a0 B sg de p r := by
  obtain ⟨a1, a2, a3, a4, a5⟩ := h1
  obtain ⟨b1, b2, b3, b4, b5⟩ := h2
  refine ⟨by omega, by omega, a3.tr a1 b3, fun k k1 k2 => ?_, by omega⟩
  by_cases h : k < q.2.2.2.1
  · have := a4 k k1 h
    rw [b3 (a0 + 2 * k) (by omega), b3 (a0 + 2 * k + 1) (by omega), dpG_c k (fun j hj => b3 j (by omega))]
    exact this
  · exact b4 k (by omega) k2
theorem Wk_eq {key a0 B : Nat} {p q : PS} (h1 : q.1 = p.1) (h2 : q.2.2.2.1 = p.2.2.2.1) (h3 : q.2.2.2.2.2 = p.2.2.2.2.2) : Wk key a0 B 0 0 p q :=
  ⟨by omega, by rw [h1, h2]; omega, fun j _ => by rw [h3], fun k k1 k2 => by omega, by rw [h2, h3]; omega⟩
theorem Wk_nx {T : Nat → Int32} {n key a0 B : Nat} {p : PS} (h : TkI T n p.1) (h0 : ¬ p.1.2.2.1 = 0) : Wk key a0 B 1 0 p (psNx T n p) := by
  have h1 := (tokF_I (T := T) h.1).2
  have h2 := h.2.2.1 h0
  refine ⟨Nat.le_refl _, ?_, fun j _ => rfl, fun k k1 k2 => ?_, ?_⟩
  · show (p.2.2.2.1 : Int) - p.2.2.2.1 + 1 ≤ ((tokF T n p.1).1 : Int) - p.1.1
    omega
  · exact absurd (show k < p.2.2.2.1 from k2) (by omega)
  · show (dpG p.2.2.2.2.2 a0 p.2.2.2.1 : Int) = dpG p.2.2.2.2.2 a0 p.2.2.2.1 + 0
    omega
theorem Wk_st {key a0 B : Nat} {p : PS} {a b : Int32} {de : Int} (hl : p.2.2.2.1 < B) (hok : stOk key a b (dpG p.2.2.2.2.2 a0 p.2.2.2.1))
    (hd : ((if a.toInt = 2 then (if b.toInt = 33 then dpG p.2.2.2.2.2 a0 p.2.2.2.1 else dpG p.2.2.2.2.2 a0 p.2.2.2.1 - 1) else dpG p.2.2.2.2.2 a0 p.2.2.2.1 + 1 : Nat) : Int) = dpG p.2.2.2.2.2 a0 p.2.2.2.1 + de) : Wk key a0 B (-1) de p (psSt a0 a b p) := by
  obtain ⟨k, d, t, l, sa, r⟩ := p
  simp only at hl hok hd
  have e0 : ∀ j, j < a0 + 2 * l ∨ a0 + 2 * B ≤ j → upd (upd r (a0 + 2 * l) a) (a0 + 2 * l + 1) b j = r j := fun j hj => by rw [pk_un (by omega), pk_un (by omega)]
  have e1 : upd (upd r (a0 + 2 * l) a) (a0 + 2 * l + 1) b (a0 + 2 * l) = a := by rw [pk_un (by omega), pk_us]
  have e2 : upd (upd r (a0 + 2 * l) a) (a0 + 2 * l + 1) b (a0 + 2 * l + 1) = b := pk_us
  have e3 : dpG (upd (upd r (a0 + 2 * l) a) (a0 + 2 * l + 1) b) a0 l = dpG r a0 l := dpG_c l (fun j hj => e0 j (Or.inl hj))
  refine ⟨Nat.le_succ _, ?_, e0, fun j k1 k2 => ?_, ?_⟩
  · show ((l + 1 : Nat) : Int) - l + -1 ≤ (k.1 : Int) - k.1
    omega
  · have e : j = l := by
      have h1 : l ≤ j := k1
      have h2 : j < l + 1 := k2
      omega
    subst e
    show stOk key (upd (upd r (a0 + 2 * j) a) (a0 + 2 * j + 1) b (a0 + 2 * j)) (upd (upd r (a0 + 2 * j) a) (a0 + 2 * j + 1) b (a0 + 2 * j + 1)) (dpG (upd (upd r (a0 + 2 * j) a) (a0 + 2 * j + 1) b) a0 j)
    rw [e1, e2, e3]
    exact hok
  · show (dpG (upd (upd r (a0 + 2 * l) a) (a0 + 2 * l + 1) b) a0 (l + 1) : Int) = dpG r a0 l + de
    rw [← hd]
    congr 1
    simp only [dpG]
    rw [e1, e2, e3]
/-- what a reader of a piece is given -/
def PI (T : Nat → Int32) (n B : Nat) (p : PS) : Prop := TkI T n p.1 ∧ p.2.1 ≤ 8 ∧ p.2.2.1 ≤ 8 ∧ p.2.2.2.1 + n ≤ B + p.1.1
theorem PI.la {T : Nat → Int32} {n B : Nat} {p : PS} (h : PI T n B p) (h0 : ¬ p.1.2.2.1 = 0) : p.2.2.2.1 < B := by
  have h1 := h.1.1
  have h2 := h.1.2.2.1 h0
  have h3 := h.2.2.2
  omega
theorem PI.to {T : Nat → Int32} {n B key a0 : Nat} {p q : PS} {sg de : Int} (h : PI T n B p) (hw : Wk key a0 B sg de p q) (hs : 0 ≤ sg) (h1 : TkI T n q.1) (h2 : q.2.1 ≤ 8) (h3 : q.2.2.1 ≤ 8) : PI T n B q := by
  have h4 := h.2.2.2
  have h5 := hw.2.1
  exact ⟨h1, h2, h3, by omega⟩
/-- what a reader of a piece does -/
def Go (T : Nat → Int32) (n key a0 B : Nat) (F : PS → Bool × PS) : Prop :=
  ∀ p, PI T n B p → TkI T n (F p).2.1 ∧ Fr a0 B p (F p).2 ∧ ((F p).1 = true → Wk key a0 B 0 1 p (F p).2 ∧ (F p).2.2.1 = p.2.1 ∧ (F p).2.2.2.1 = p.2.2.1)
abbrev SgS (v : Int32) : Prop := v = 38 ∨ v = 42 ∨ v = 43 ∨ v = 45 ∨ v = 47 ∨ v = 60 ∨ v = 61 ∨ v = 62 ∨ v = 124
def OpS (op : PS → Bool) : Prop := ∀ p, op p = true → p.1.2.2.1 = 3 ∧ SgS p.1.2.2.2.2
section
variable {T : Nat → Int32} {n key a0 B : Nat} {op : PS → Bool} {sub : PS → Bool × PS}
theorem Wk_bin {p : PS} {v : Int32} (hl : p.2.2.2.1 < B) (hv : SgS v) (h2 : 2 ≤ dpG p.2.2.2.2.2 a0 p.2.2.2.1) : Wk key a0 B (-1) (-1) p (psSt a0 2 v p) :=
  Wk_st hl (Or.inr (Or.inr (Or.inr ⟨by decide, hv, h2⟩))) (by rw [if_pos (by decide), if_neg (sign_ne hv)]; omega)
/-- a sign, what stands behind it, its step -/
theorem Lp_one (hs : Go T n key a0 B sub) {p : PS} (hp : PI T n B p) (h3 : p.1.2.2.1 = 3) (hv : SgS p.1.2.2.2.2) (hd : 1 ≤ dpG p.2.2.2.2.2 a0 p.2.2.2.1) :
    PI T n B (psNx T n p) ∧ TkI T n (sub (psNx T n p)).2.1 ∧ Fr a0 B p (sub (psNx T n p)).2 ∧ ((sub (psNx T n p)).1 = true →
      Wk key a0 B 1 1 p (sub (psNx T n p)).2 ∧ (sub (psNx T n p)).2.2.2.2.1 < B ∧ Wk key a0 B 0 0 p (psSt a0 2 p.1.2.2.2.2 (sub (psNx T n p)).2) ∧ PI T n B (psSt a0 2 p.1.2.2.2.2 (sub (psNx T n p)).2) ∧
      (sub (psNx T n p)).2.2.1 = p.2.1 ∧ (sub (psNx T n p)).2.2.2.1 = p.2.2.1) := by
  have h0 : ¬ p.1.2.2.1 = 0 := by rw [h3]; decide
  have hx : Wk key a0 B 1 0 p (psNx T n p) := Wk_nx hp.1 h0
  have hq : PI T n B (psNx T n p) := hp.to hx (by omega) (tokF_I hp.1.1).1 hp.2.1 hp.2.2.1
  obtain ⟨s1, s2, s3⟩ := hs _ hq
  generalize sub (psNx T n p) = r at s1 s2 s3 ⊢
  refine ⟨hq, s1, hx.2.2.1.tr hx.1 s2, fun h1 => ?_⟩
  obtain ⟨w1, d1, t1⟩ := s3 h1
  have w2 : Wk key a0 B 1 1 p r.2 := hx.tr w1 (by omega) (by omega)
  have hB : r.2.2.2.2.1 < B := by
    have a1 := hp.2.2.2
    have a2 := w2.2.1
    have a3 := s1.1
    have a4 := s1.2.1
    omega
  have hdd : 2 ≤ dpG r.2.2.2.2.2.2 a0 r.2.2.2.2.1 := by
    have := w2.2.2.2.2
    omega
  have w3 : Wk key a0 B 0 0 p (psSt a0 2 p.1.2.2.2.2 r.2) := w2.tr (Wk_bin hB hv hdd) (by omega) (by omega)
  refine ⟨w2, hB, w3, hp.to w3 (by omega) s1 ?_ ?_, d1, t1⟩
  · show r.2.2.1 ≤ 8
    rw [d1]; exact hp.2.1
  · show r.2.2.2.1 ≤ 8
    rw [t1]; exact hp.2.2.1
theorem Lp_ok (hop : OpS op) (hs : Go T n key a0 B sub) : ∀ f p, PI T n B p → 1 ≤ dpG p.2.2.2.2.2 a0 p.2.2.2.1 →
    TkI T n (psLp T n a0 op sub f p).2.1 ∧ Fr a0 B p (psLp T n a0 op sub f p).2 ∧ ((psLp T n a0 op sub f p).1 = true → Wk key a0 B 0 0 p (psLp T n a0 op sub f p).2 ∧ (psLp T n a0 op sub f p).2.2.1 = p.2.1 ∧ (psLp T n a0 op sub f p).2.2.2.1 = p.2.2.1)
  | 0, p, hp, _ => ⟨hp.1, fun _ _ => rfl, fun h => absurd h Bool.false_ne_true⟩
  | f + 1, p, hp, hd => by
    simp only [psLp]
    by_cases ho : op p = true
    · rw [if_pos ho]
      obtain ⟨h3, hv⟩ := hop p ho
      obtain ⟨hq, s1, s2, s3⟩ := Lp_one hs hp h3 hv hd
      by_cases h1 : (sub (psNx T n p)).1 = true
      · rw [if_pos h1]
        obtain ⟨w2, hB, w3, hP, d1, t1⟩ := s3 h1
        have hd2 : 1 ≤ dpG (psSt a0 2 p.1.2.2.2.2 (sub (psNx T n p)).2).2.2.2.2.2 a0 (psSt a0 2 p.1.2.2.2.2 (sub (psNx T n p)).2).2.2.2.1 := by
          have := w3.2.2.2.2
          omega
        obtain ⟨i1, i2, i3⟩ := Lp_ok hop hs f _ hP hd2
        refine ⟨i1, w3.2.2.1.tr w3.1 i2, fun h => ?_⟩
        obtain ⟨j1, j2, j3⟩ := i3 h
        exact ⟨w3.tr j1 (by omega) (by omega), j2.trans d1, j3.trans t1⟩
      · rw [if_neg h1]
        exact ⟨s1, s2, fun h => absurd h Bool.false_ne_true⟩
    · rw [if_neg ho]
      exact ⟨hp.1, fun _ _ => rfl, fun _ => ⟨Wk_eq rfl rfl rfl, rfl, rfl⟩⟩
theorem Bi_ok (hop : OpS op) (hs : Go T n key a0 B sub) : Go T n key a0 B (psBi T n a0 op sub) := by
  intro p hp
  obtain ⟨s1, s2, s3⟩ := hs p hp
  unfold psBi
  generalize sub p = r at s1 s2 s3 ⊢
  by_cases h1 : r.1 = true
  · rw [if_pos h1]
    obtain ⟨w1, d1, t1⟩ := s3 h1
    have hq : PI T n B r.2 := hp.to w1 (by omega) s1 (by rw [d1]; exact hp.2.1) (by rw [t1]; exact hp.2.2.1)
    obtain ⟨i1, i2, i3⟩ := Lp_ok hop hs 97 r.2 hq (by have := w1.2.2.2.2; omega)
    refine ⟨i1, s2.tr w1.1 i2, fun h => ?_⟩
    obtain ⟨j1, j2, j3⟩ := i3 h
    exact ⟨w1.tr j1 (by omega) (by omega), j2.trans d1, j3.trans t1⟩
  · rw [if_neg h1]
    exact ⟨s1, s2, fun h => absurd h Bool.false_ne_true⟩
theorem Te_ok (hop : OpS op) (hs : Go T n key a0 B sub) : Go T n key a0 B (psTe T n a0 op sub) := by
  intro p hp
  obtain ⟨s1, s2, s3⟩ := hs p hp
  unfold psTe
  generalize sub p = r at s1 s2 s3 ⊢
  by_cases h1 : r.1 = true
  · rw [if_pos h1]
    obtain ⟨w1, d1, t1⟩ := s3 h1
    have hq : PI T n B r.2 := hp.to w1 (by omega) s1 (by rw [d1]; exact hp.2.1) (by rw [t1]; exact hp.2.2.1)
    by_cases ho : op r.2 = true
    · rw [if_pos ho]
      obtain ⟨h3, hv⟩ := hop _ ho
      obtain ⟨hq, s1, s4, s3⟩ := Lp_one hs hq h3 hv (by have := w1.2.2.2.2; omega)
      by_cases h2 : (sub (psNx T n r.2)).1 = true
      · rw [if_pos h2]
        obtain ⟨w2, hB, w3, hP, d2, t2⟩ := s3 h2
        exact ⟨s1, s2.tr w1.1 w3.2.2.1, fun _ => ⟨w1.tr w3 (by omega) (by omega), d2.trans d1, t2.trans t1⟩⟩
      · rw [if_neg h2]
        exact ⟨s1, s2.tr w1.1 s4, fun h => absurd h Bool.false_ne_true⟩
    · rw [if_neg ho]
      exact ⟨s1, s2, fun _ => ⟨w1, d1, t1⟩⟩
  · rw [if_neg h1]
    exact ⟨s1, s2, fun h => absurd h Bool.false_ne_true⟩
end
theorem opOr_s : OpS opOr := fun p h => by
  obtain ⟨h1, h2⟩ := of_decide_eq_true h
  exact ⟨h1, by rw [h2]; decide⟩
theorem opAn_s : OpS opAn := fun p h => by
  obtain ⟨h1, h2⟩ := of_decide_eq_true h
  exact ⟨h1, by rw [h2]; decide⟩
theorem opCm_s : OpS opCm := fun p h => by
  rcases of_decide_eq_true h with ⟨h1, h2⟩ | ⟨h1, h2⟩ | ⟨h1, h2⟩ <;> exact ⟨h1, by rw [h2]; decide⟩
theorem opSu_s : OpS opSu := fun p h => by
  rcases of_decide_eq_true h with ⟨h1, h2⟩ | ⟨h1, h2⟩ <;> exact ⟨h1, by rw [h2]; decide⟩
theorem opTe_s : OpS opTe := fun p h => by
  rcases of_decide_eq_true h with ⟨h1, h2⟩ | ⟨h1, h2⟩ <;> exact ⟨h1, by rw [h2]; decide⟩
theorem Ei_ok {T : Nat → Int32} {n key a0 B : Nat} {part : PS → Bool × PS} (h : Go T n key a0 B part) : Go T n key a0 B (psEi T n a0 part) :=
  Bi_ok opOr_s (Bi_ok opAn_s (Te_ok opCm_s (Bi_ok opSu_s (Bi_ok opTe_s h))))
theorem nmP_ok {key : Nat} (hk : key ≤ 2) {v : Int32} (h : nmP (nI key) v) : nameOk key v := by
  have e : (nI key).toInt = (key : Int) := i_nI (by omega)
  unfold nmP at h
  rw [e] at h
  unfold nameOk
  simp only [eq_i, Int32.reduceToInt]
  omega
theorem Pt_ok {T : Nat → Int32} {n key a0 B : Nat} (hk : key ≤ 2) : ∀ f, Go T n key a0 B (psPt T n a0 (nI key) f)
  | 0 => fun p hp => ⟨hp.1, fun _ _ => rfl, fun h => absurd h Bool.false_ne_true⟩
  | f + 1 => by
    have ih := Pt_ok (T := T) (n := n) (a0 := a0) (B := B) hk f
    intro p hp
    simp only [psPt]
    by_cases c1 : p.1.2.2.1 = 2
    · rw [if_pos c1]
      have h0 : ¬ p.1.2.2.1 = 0 := by rw [c1]; decide
      obtain ⟨q1, q2, q3⟩ := hp.1.2.2.2.2.2.1 c1
      obtain ⟨m, hm, em⟩ := numF_n (T := T) (bg := p.1.1) (p.1.2.1 - p.1.1) q1 (fun j hj => (q3 (p.1.1 + j) (by omega) (by omega)).2)
      have hm4 : m < 10000 := Nat.lt_of_lt_of_le hm (Nat.pow_le_pow_right (by decide) q1)
      have w1 : Wk key a0 B (-1) 1 p (psSt a0 0 p.1.2.2.2.1 p) := Wk_st (hp.la h0) (Or.inl ⟨by decide, by rw [q2, em, i_nI (by omega)]; omega⟩) (by rw [if_neg (by decide)]; omega)
      have w2 : Wk key a0 B 0 0 (psSt a0 0 p.1.2.2.2.1 p) (psSa (psSt a0 0 p.1.2.2.2.1 p)) := Wk_eq rfl rfl rfl
      have w3 : Wk key a0 B 1 0 (psSa (psSt a0 0 p.1.2.2.2.1 p)) (psNx T n (psSa (psSt a0 0 p.1.2.2.2.1 p))) := Wk_nx hp.1 h0
      have w4 : Wk key a0 B 0 1 p (psNx T n (psSa (psSt a0 0 p.1.2.2.2.1 p))) := (w1.tr w2 (Int.le_refl _) rfl).tr w3 (by omega) (by omega)
      exact ⟨(tokF_I hp.1.1).1, w4.2.2.1, fun _ => ⟨w4, rfl, rfl⟩⟩
    · rw [if_neg c1]
      by_cases c2 : p.1.2.2.1 = 1 ∧ ¬ p.1.2.2.2.2 = 0 ∧ nmP (nI key) p.1.2.2.2.2
      · rw [if_pos c2]
        have h0 : ¬ p.1.2.2.1 = 0 := by rw [c2.1]; decide
        have w1 : Wk key a0 B (-1) 1 p (psSt a0 1 p.1.2.2.2.2 p) := Wk_st (hp.la h0) (Or.inr (Or.inl ⟨by decide, nmP_ok hk c2.2.2⟩)) (by rw [if_neg (by decide)]; omega)
        have w2 : Wk key a0 B 0 0 (psSt a0 1 p.1.2.2.2.2 p) (psSa (psSt a0 1 p.1.2.2.2.2 p)) := Wk_eq rfl rfl rfl
        have w3 : Wk key a0 B 1 0 (psSa (psSt a0 1 p.1.2.2.2.2 p)) (psNx T n (psSa (psSt a0 1 p.1.2.2.2.2 p))) := Wk_nx hp.1 h0
        have w4 : Wk key a0 B 0 1 p (psNx T n (psSa (psSt a0 1 p.1.2.2.2.2 p))) := (w1.tr w2 (Int.le_refl _) rfl).tr w3 (by omega) (by omega)
        exact ⟨(tokF_I hp.1.1).1, w4.2.2.1, fun _ => ⟨w4, rfl, rfl⟩⟩
      · rw [if_neg c2]
        by_cases c3 : psSg 33 p ∧ p.2.2.1 < 8
        · rw [if_pos c3]
          have h0 : ¬ p.1.2.2.1 = 0 := by rw [c3.1.1]; decide
          have w1 : Wk key a0 B 0 0 p (psTn (p.2.2.1 + 1) p) := Wk_eq rfl rfl rfl
          have w2 : Wk key a0 B 1 0 (psTn (p.2.2.1 + 1) p) (psNx T n (psTn (p.2.2.1 + 1) p)) := Wk_nx hp.1 h0
          have w3 : Wk key a0 B 1 0 p (psNx T n (psTn (p.2.2.1 + 1) p)) := w1.tr w2 (by omega) (by omega)
          have hq : PI T n B (psNx T n (psTn (p.2.2.1 + 1) p)) := hp.to w3 (by omega) (tokF_I hp.1.1).1 hp.2.1 (show p.2.2.1 + 1 ≤ 8 by omega)
          obtain ⟨s1, s2, s3⟩ := ih _ hq
          have et : (psNx T n (psTn (p.2.2.1 + 1) p)).2.2.1 = p.2.2.1 + 1 := rfl
          have ed : (psNx T n (psTn (p.2.2.1 + 1) p)).2.1 = p.2.1 := rfl
          generalize psPt T n a0 (nI key) f (psNx T n (psTn (p.2.2.1 + 1) p)) = r at s1 s2 s3 ⊢
          by_cases h1 : r.1 = true
          · rw [if_pos h1]
            obtain ⟨v1, d1, t1⟩ := s3 h1
            have v2 : Wk key a0 B 1 1 p r.2 := w3.tr v1 (by omega) (by omega)
            have v3 : Wk key a0 B 0 0 r.2 (psTn (r.2.2.2.1 - 1) r.2) := Wk_eq rfl rfl rfl
            have v4 : Wk key a0 B 1 1 p (psTn (r.2.2.2.1 - 1) r.2) := v2.tr v3 (by omega) (by omega)
            have hB : r.2.2.2.2.1 < B := by
              have a1 := hp.2.2.2
              have a2 := v2.2.1
              have a3 := s1.1
              have a4 := s1.2.1
              omega
            have hdd : (dpG r.2.2.2.2.2.2 a0 r.2.2.2.2.1 : Int) = dpG p.2.2.2.2.2 a0 p.2.2.2.1 + 1 := v2.2.2.2.2
            have v5 : Wk key a0 B (-1) 0 (psTn (r.2.2.2.1 - 1) r.2) (psSt a0 2 33 (psTn (r.2.2.2.1 - 1) r.2)) := Wk_st hB (Or.inr (Or.inr (Or.inl ⟨by decide, by decide, show 1 ≤ dpG r.2.2.2.2.2.2 a0 r.2.2.2.2.1 by omega⟩))) (by rw [if_pos (by decide), if_pos (by decide)]; omega)
            have v6 : Wk key a0 B 0 1 p (psSt a0 2 33 (psTn (r.2.2.2.1 - 1) r.2)) := v4.tr v5 (by omega) (by omega)
            refine ⟨s1, v6.2.2.1, fun _ => ⟨v6, d1.trans ed, ?_⟩⟩
            show r.2.2.2.1 - 1 = p.2.2.1
            rw [t1, et]
            omega
          · rw [if_neg h1]
            exact ⟨s1, w3.2.2.1.tr w3.1 s2, fun h => absurd h Bool.false_ne_true⟩
        · rw [if_neg c3]
          by_cases c4 : ¬ psSg 40 p ∨ p.2.1 = 8
          · rw [if_pos c4]
            exact ⟨hp.1, fun _ _ => rfl, fun h => absurd h Bool.false_ne_true⟩
          · rw [if_neg c4]
            have c5 : psSg 40 p := Decidable.not_not.mp (fun h => c4 (Or.inl h))
            have c6 : ¬ p.2.1 = 8 := fun h => c4 (Or.inr h)
            have h0 : ¬ p.1.2.2.1 = 0 := by rw [c5.1]; decide
            have w1 : Wk key a0 B 0 0 p (psDp (p.2.1 + 1) p) := Wk_eq rfl rfl rfl
            have w2 : Wk key a0 B 1 0 (psDp (p.2.1 + 1) p) (psNx T n (psDp (p.2.1 + 1) p)) := Wk_nx hp.1 h0
            have w3 : Wk key a0 B 1 0 p (psNx T n (psDp (p.2.1 + 1) p)) := w1.tr w2 (by omega) (by omega)
            have h8 := hp.2.1
            have hq : PI T n B (psNx T n (psDp (p.2.1 + 1) p)) := hp.to w3 (by omega) (tokF_I hp.1.1).1 (show p.2.1 + 1 ≤ 8 by omega) hp.2.2.1
            obtain ⟨s1, s2, s3⟩ := Ei_ok ih _ hq
            have et : (psNx T n (psDp (p.2.1 + 1) p)).2.2.1 = p.2.2.1 := rfl
            have ed : (psNx T n (psDp (p.2.1 + 1) p)).2.1 = p.2.1 + 1 := rfl
            generalize psEi T n a0 (psPt T n a0 (nI key) f) (psNx T n (psDp (p.2.1 + 1) p)) = r at s1 s2 s3 ⊢
            by_cases h1 : r.1 = true ∧ psSg 41 r.2
            · rw [if_pos h1]
              obtain ⟨v1, d1, t1⟩ := s3 h1.1
              have v2 : Wk key a0 B 1 1 p r.2 := w3.tr v1 (by omega) (by omega)
              have v3 : Wk key a0 B 0 0 r.2 (psDp (r.2.2.1 - 1) r.2) := Wk_eq rfl rfl rfl
              have v4 : Wk key a0 B 1 0 (psDp (r.2.2.1 - 1) r.2) (psNx T n (psDp (r.2.2.1 - 1) r.2)) := Wk_nx s1 (by rw [show (psDp (r.2.2.1 - 1) r.2).1 = r.2.1 from rfl, h1.2.1]; decide)
              have v5 : Wk key a0 B 0 1 p (psNx T n (psDp (r.2.2.1 - 1) r.2)) := (v2.tr v3 (sg := 1) (de := 1) (by omega) (by omega)).tr v4 (by omega) (by omega)
              refine ⟨(tokF_I s1.1).1, v5.2.2.1, fun _ => ⟨v5, ?_, t1.trans et⟩⟩
              show r.2.2.1 - 1 = p.2.1
              rw [d1, ed]
              omega
            · rw [if_neg h1]
              exact ⟨s1, w3.2.2.1.tr w3.1 s2, fun h => absurd h Bool.false_ne_true⟩
