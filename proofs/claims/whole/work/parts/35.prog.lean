-- a token moves the reader on
theorem runE_1 {p : Nat → Bool} {f b : Nat} (h : p b = true) (hf : 0 < f) : b + 1 ≤ runE p f b := by
  obtain ⟨f1, e⟩ : ∃ f1, f = f1 + 1 := ⟨f - 1, by omega⟩
  subst e
  rw [runE_t h]
  exact (runE_le p f1 (b + 1)).1
theorem tokF_b {T : Nat → Int32} {n : Nat} {k : Tok} (hk : k.2.1 ≤ n) : k.2.1 ≤ (tokF T n k).2.1 ∧ (tokF T n k).2.1 ≤ n ∧ (tokF T n k).1 ≤ (tokF T n k).2.1 ∧ (¬ (tokF T n k).2.2.1 = 0 → k.2.1 < (tokF T n k).2.1) := by
  have h0 := runE_le (spB T n) (n - k.2.1) k.2.1
  unfold tokF
  generalize runE (spB T n) (n - k.2.1) k.2.1 = bg at h0 ⊢
  by_cases h1 : bg = n
  · rw [if_pos h1]; exact ⟨hk, Nat.le_refl _, Nat.le_refl _, fun h => absurd rfl h⟩
  · rw [if_neg h1]
    by_cases h2 : tpL T n bg
    · rw [if_pos h2]
      have h3 := runE_le (ltB T n) (n - bg) bg
      have h4 := runE_1 (p := ltB T n) (f := n - bg) (b := bg) (decide_eq_true h2) (by omega)
      simp only
      exact ⟨by omega, by omega, by omega, fun _ => by omega⟩
    · rw [if_neg h2]
      by_cases h5 : tpD T n bg
      · rw [if_pos h5]
        have h3 := runE_le (dgB T n) (n - bg) bg
        have h4 := runE_1 (p := dgB T n) (f := n - bg) (b := bg) (decide_eq_true h5) (by omega)
        simp only
        exact ⟨by omega, by omega, by omega, fun _ => by omega⟩
      · rw [if_neg h5]
        simp only
        exact ⟨by omega, by omega, by omega, fun _ => by omega⟩
