/-! what a minute leaves as it was -/
section
variable {s s' : Nat → Int32}
theorem sN_congr {i : Nat} (h : s' i = s i) : sN s' i = sN s i := by unfold sN; rw [h]
theorem Nb_congr {i n : Nat} (h : s' i = s i) (hn : Nb s i n) : Nb s' i n := ⟨by rw [sN_congr h, h]; exact hn.1, by rw [sN_congr h]; exact hn.2⟩
theorem cnt_congr {key : Int32} (n : Nat) (h : ∀ t, t < n → s' (40 + 200 * t) = s (40 + 200 * t)) : cntF s' key n = cntF s key n := by
  induction n with
  | zero => rfl
  | succ n ih =>
    simp only [cntF]
    rw [h n (by omega), ih (fun t ht => h t (by omega))]
theorem dp_congr {t : Nat} (n : Nat) (h : ∀ j, j < n → s' (40 + 200 * t + 4 + 2 * j) = s (40 + 200 * t + 4 + 2 * j) ∧ s' (40 + 200 * t + 4 + 2 * j + 1) = s (40 + 200 * t + 4 + 2 * j + 1)) : dpF s' t n = dpF s t n := by
  induction n with
  | zero => rfl
  | succ n ih =>
    simp only [dpF]
    rw [(h n (by omega)).1, (h n (by omega)).2, ih (fun j hj => h j (by omega))]
theorem wk_rows {t : Nat} {nm : Int32 → Int32} (n : Nat) (h : ∀ j, j < n → s' (40 + 200 * t + 4 + 2 * j) = s (40 + 200 * t + 4 + 2 * j) ∧ s' (40 + 200 * t + 4 + 2 * j + 1) = s (40 + 200 * t + 4 + 2 * j + 1)) : wkF s' t nm n = wkF s t nm n := by
  induction n with
  | zero => rfl
  | succ n ih =>
    simp only [wkF]
    rw [(h n (by omega)).1, (h n (by omega)).2, ih (fun j hj => h j (by omega))]
/-- a text lies in its own places alone -/
def SameT (s s' : Nat → Int32) (t : Nat) : Prop := ∀ j, 40 + 200 * t ≤ j → j < 40 + 200 * t + 200 → s' j = s j
theorem SameT.many {t : Nat} (h : SameT s s' t) : tMany s' t = tMany s t := sN_congr (h _ (by omega) (by omega))
theorem SameT.steps {t n : Nat} (h : SameT s s' t) (hn : n ≤ 93) : ∀ j, j < n → s' (40 + 200 * t + 4 + 2 * j) = s (40 + 200 * t + 4 + 2 * j) ∧ s' (40 + 200 * t + 4 + 2 * j + 1) = s (40 + 200 * t + 4 + 2 * j + 1) := fun j hj => ⟨h _ (by omega) (by omega), h _ (by omega) (by omega)⟩
theorem SameT.ok {t : Nat} (h : SameT s s' t) (hT : TxOk s t) : TxOk s' t := by
  obtain ⟨h1, h2, h3, h4⟩ := hT
  have hn : tMany s t ≤ 93 := h2.2
  have e0 : s' (40 + 200 * t) = s (40 + 200 * t) := h _ (by omega) (by omega)
  refine ⟨Nb_congr e0 h1, Nb_congr (h _ (by omega) (by omega)) h2, ?_, ?_⟩
  · intro k hk
    rw [h.many] at hk
    have := h3 k hk
    rw [← (h.steps (n := k + 1) (by omega) k (by omega)).1, ← (h.steps (n := k + 1) (by omega) k (by omega)).2, ← dp_congr k (h.steps (by omega)), ← sN_congr e0] at this
    exact this
  · rw [h.many, dp_congr _ (h.steps hn)]
    exact h4
theorem SameT.ev {t : Nat} (h : SameT s s' t) (hT : TxOk s t) (nm : Int32 → Int32) : evF s' t nm = evF s t nm := by
  have hn : tMany s t ≤ 93 := hT.2.1.2
  unfold evF
  rw [h.many, wk_rows _ (h.steps hn)]
/-- the texts of two rows are alike -/
def SameX (s s' : Nat → Int32) : Prop := s' 1 = s 1 ∧ ∀ t, t < sN s 1 → SameT s s' t
theorem SameX.cnt (h : SameX s s') (key : Int32) : cntF s' key (sN s' 1) = cntF s key (sN s 1) := by
  rw [sN_congr h.1]
  exact cnt_congr _ (fun t ht => h.2 t ht _ (by omega) (by omega))
theorem SameX.ag (h : SameX s s') (hX : ∀ t, t < sN s 1 → TxOk s t) (h14 : sN s 1 ≤ 14) (o tn x : Nat) : agW s' o tn x = agW s o tn x := by
  unfold agW
  rw [h.cnt]
  rcases cnt_rng s 0 (sN s 1) (by omega) with e | ⟨t, ht, e, -⟩
  · rw [e, if_pos (by decide), if_pos (by decide)]
  · rw [e, nI_clamp (by omega), (h.2 t ht).ev (hX t ht)]
theorem SameX.stk (h : SameX s s') (hX : ∀ t, t < sN s 1 → TxOk s t) (h14 : sN s 1 ≤ 14) (kd o tn t : Nat) : stkW s' kd o tn t = stkW s kd o tn t := by
  unfold stkW
  congr 1
  funext x
  exact h.ag hX h14 o tn x
theorem SameX.tot (h : SameX s s') (hX : ∀ t, t < sN s 1 → TxOk s t) (h14 : sN s 1 ≤ 14) (hc : ∀ j, 10 ≤ j → j < 28 → s' j = s j) (t : Nat) : ∀ n, n ≤ 6 → totF s' t n = totF s t n
  | 0, _ => rfl
  | n + 1, hn => by
    simp only [totF]
    rw [SameX.tot h hX h14 hc t n (by omega)]
    unfold stkF
    rw [sN_congr (hc (10 + 3 * n + 0) (by omega) (by omega)), sN_congr (hc (10 + 3 * n + 1) (by omega) (by omega)), sN_congr (hc (10 + 3 * n + 2) (by omega) (by omega)), h.stk hX h14]
end
theorem mk_le (a z : Int32) : mkF a z ≤ 1 := by unfold mkF; split <;> omega
theorem min_X (s : Nat → Int32) (n : Nat) : SameX s (minF s n) := ⟨min_o s n (by decide) (by decide) (by decide) (by decide) (by decide) (by decide) (by omega), fun t _ j h1 h2 => min_o s n (by omega) (by omega) (by omega) (by omega) (by omega) (by omega) (by omega)⟩
theorem Gd_min {s : Nat → Int32} (hG : Gd s) {n : Nat} (hn : n ≤ 96) (hm : sN s 2 < 20000) : Gd (minF s n) ∧ sN (minF s n) 2 = sN s 2 + 1 := by
  obtain ⟨h0, h1, h2, h6, h7, h8, hC, hN, hX⟩ := hG
  have hx := min_X s n
  have e2 : minF s n 2 = nI (sN s 2 + 1) := by rw [min_2, h2.1, nI_1]
  refine ⟨⟨?_, ?_, ?_, ?_, ?_, ?_, ?_, ?_, ?_⟩, sN_of e2 (by omega)⟩
  · exact Nb_congr (min_o s n (by decide) (by decide) (by decide) (by decide) (by decide) (by decide) (by omega)) h0
  · exact Nb_congr hx.1 h1
  · exact Nb.of e2 (by omega) (by decide)
  · exact Nb_congr (min_o s n (by decide) (by decide) (by decide) (by decide) (by decide) (by decide) (by omega)) h6
  · exact Nb_congr (min_o s n (by decide) (by decide) (by decide) (by decide) (by decide) (by decide) (by omega)) h7
  · have e8 : (s 8).toInt = (sN s 8 : Int) := by
      have := h8.2
      rw [h8.1, i_nI (by omega)]
    by_cases h12 : 12 ≤ (s 8).toInt
    · exact Nb_congr (by rw [min_8, if_pos h12]) h8
    · exact Nb.of (j := sN s 8 + 1) (by rw [min_8, if_neg h12]; rw [h8.1, nI_1]) (by omega) (by decide)
  · intro k hk
    obtain ⟨c0, c1, c2⟩ := hC k hk
    exact ⟨Nb_congr (min_o s n (by omega) (by omega) (by omega) (by omega) (by omega) (by omega) (by omega)) c0, Nb_congr (min_o s n (by omega) (by omega) (by omega) (by omega) (by omega) (by omega) (by omega)) c1, Nb_congr (min_o s n (by omega) (by omega) (by omega) (by omega) (by omega) (by omega) (by omega)) c2⟩
  · intro j hj
    by_cases h00 : j = 0
    · subst h00
      have := tk_le (s 6) (s 9) n
      have := mk_le (s 7) (zN (s 9) n)
      exact Nb.of (min_28 s n) (by omega) (by decide)
    · have h9 := hN (j - 1) (by omega)
      have e : minF s n (28 + j) = s (28 + (j - 1)) := by rw [min_n s n (by omega), show 28 + j - 1 = 28 + (j - 1) by omega]
      exact ⟨by unfold sN; rw [e]; exact h9.1, by unfold sN; rw [e]; exact h9.2⟩
  · intro t ht
    rw [sN_congr hx.1] at ht
    exact (hx.2 t ht).ok (hX t ht)
theorem Gd_go {s : Nat → Int32} (hG : Gd s) (hm : sN s 2 < 20000) : Gd (goF s) ∧ sN (goF s) 2 = sN s 2 + 1 :=
  Gd_min hG (by have := tot_le s (sN s 2 % 720) (sN s 0); have := hG.1.2; omega) hm
theorem Gd_goM {s : Nat → Int32} (hG : Gd s) : ∀ n, sN s 2 + n ≤ 20000 → Gd (goM s n) ∧ sN (goM s n) 2 = sN s 2 + n
  | 0, _ => ⟨hG, rfl⟩
  | n + 1, h => by
    obtain ⟨h1, h2⟩ := Gd_goM hG n (by omega)
    obtain ⟨h3, h4⟩ := Gd_go h1 (by omega)
    exact ⟨h3, by show sN (goF (goM s n)) 2 = _; omega⟩
/-- clocks, texts and what else a minute doesn't touch stay over many -/
theorem goM_o (s : Nat → Int32) {j : Nat} (h2 : j ≠ 2) (h3 : j ≠ 3) (h4 : j ≠ 4) (h5 : j ≠ 5) (h8 : j ≠ 8) (h9 : j ≠ 9) (hn : j < 28 ∨ 40 ≤ j) : ∀ n, goM s n j = s j
  | 0 => rfl
  | n + 1 => by
    show minF (goM s n) _ j = s j
    rw [min_o _ _ h2 h3 h4 h5 h8 h9 hn, goM_o s h2 h3 h4 h5 h8 h9 hn n]
theorem goM_X (s : Nat → Int32) (n : Nat) : SameX s (goM s n) := ⟨goM_o s (by decide) (by decide) (by decide) (by decide) (by decide) (by decide) (by omega) n, fun t _ j h1 h2 => goM_o s (by omega) (by omega) (by omega) (by omega) (by omega) (by omega) (by omega) n⟩
theorem goM_tot {s : Nat → Int32} (hG : Gd s) (n t : Nat) : totF (goM s n) t (sN (goM s n) 0) = totF s t (sN s 0) := by
  rw [sN_congr (goM_o s (j := 0) (by decide) (by decide) (by decide) (by decide) (by decide) (by decide) (by omega) n)]
  exact (goM_X s n).tot hG.2.2.2.2.2.2.2.2 hG.2.1.2 (fun j h1 h2 => goM_o s (by omega) (by omega) (by omega) (by omega) (by omega) (by omega) (by omega) n) t _ hG.1.2
theorem tot_1000 {s : Nat → Int32} (hG : Gd s) (t : Nat) : totF s t (sN s 0) ≤ 1000 := by have := tot_le s t (sN s 0); have := hG.1.2; omega
