-- the world behind both constructors
def e0 : Wd := (0, fun _ => (0, 0), fun _ _ => 0, fun _ _ => none)
def W0 : Wd := f9 (pN (f8 (pN e0 8 0)) 9 0)
theorem W0_wn : wn W0 = 98 := by decide +kernel
theorem W0_K : ∀ a, a < 98 → wsh W0 a = SH.getD a (0, 0) := by decide +kernel
theorem W0_R : ((List.range 98).all fun a => (List.range (RT.getD a []).length).all fun k => decide (RF a k = none) || decide (wF W0 a k = RF a k)) = true := by decide +kernel
theorem W0_wf : Wf W0 := by
  refine ⟨fun a kd n e => ?_, fun a k b e => ?_⟩
  · have ha : a < 98 := by
      apply Decidable.byContradiction
      intro h
      rw [List.getElem?_eq_none (show SH.length ≤ a by exact Nat.le_of_not_lt h)] at e
      cases e
    refine ⟨by rw [W0_wn]; exact ha, ?_⟩
    rw [W0_K a ha, List.getD_eq_getElem?_getD, e]
    rfl
  · have ha := RF_lt e
    have hk : k < (RT.getD a []).length := by
      apply Decidable.byContradiction
      intro h
      unfold RF at e
      rw [List.getD_eq_getElem?_getD (l := RT.getD a []), List.getElem?_eq_none (Nat.le_of_not_lt h)] at e
      cases e
    have h1 := List.all_eq_true.mp W0_R a (List.mem_range.mpr ha)
    have h2 := List.all_eq_true.mp h1 k (List.mem_range.mpr hk)
    rcases Bool.or_eq_true_iff.mp h2 with h3 | h3
    · rw [of_decide_eq_true h3] at e
      cases e
    · rw [of_decide_eq_true h3]
      exact e
theorem s0_v : ∀ j, j < 40 → wI W0 79 j = nI (if j = 9 then 1 else if j = 6 then 100 else 0) := by decide +kernel
theorem s0_N {j n : Nat} (hj : j < 40) (h9 : j ≠ 9) (h6 : j ≠ 6) (hn : n < 2 ^ 31) : Nb (wI W0 79) j n := by
  have e := s0_v j hj
  rw [if_neg h9, if_neg h6] at e
  exact Nb.of e (Nat.zero_le n) hn
theorem s0_1 : sN (wI W0 79) 1 = 0 := by decide +kernel
theorem s0_Gd : Gd (wI W0 79) := by
  refine ⟨s0_N (by decide) (by decide) (by decide) (by decide), s0_N (by decide) (by decide) (by decide) (by decide), s0_N (by decide) (by decide) (by decide) (by decide), Nb.of (s0_v 6 (by decide)) (by decide) (by decide), s0_N (by decide) (by decide) (by decide) (by decide), s0_N (by decide) (by decide) (by decide) (by decide), fun k hk => ⟨s0_N (by omega) (by omega) (by omega) (by decide), s0_N (by omega) (by omega) (by omega) (by decide), s0_N (by omega) (by omega) (by omega) (by decide)⟩, fun j hj => s0_N (by omega) (by omega) (by omega) (by decide), fun t ht => ?_⟩
  rw [s0_1] at ht
  exact absurd ht (Nat.not_lt_zero t)
theorem W0_n2 : ∀ j, j < 12 → wI W0 3 j = wI W0 79 (28 + j) := by decide +kernel
theorem W0_n3 : ∀ k, k < 6 → wI W0 (1 + 5 + k) 0 = wI W0 79 (10 + 3 * k + 0) ∧ wI W0 (1 + 5 + k) 1 = wI W0 79 (10 + 3 * k + 1) ∧ wI W0 (1 + 5 + k) 2 = wI W0 79 (10 + 3 * k + 2) := by decide +kernel
theorem W0_n4 : ∀ q, q < 3 → wI W0 5 q = lwF (wI W0 79) q := by decide +kernel
theorem W0_NR : NR W0 1 (wI W0 79) := by
  refine ⟨⟨?_, ?_, ?_, ?_, ?_, ?_, ?_, ?_, ?_, ?_⟩, W0_n2, W0_n3, W0_n4, fun t ht => ?_⟩
  · decide +kernel
  · decide +kernel
  · decide +kernel
  · decide +kernel
  · decide +kernel
  · decide +kernel
  · decide +kernel
  · decide +kernel
  · decide +kernel
  · decide +kernel
  · rw [s0_1] at ht
    exact absurd ht (Nat.not_lt_zero t)
theorem W0_t : ∀ t, t < 14 → wF W0 4 t = none ∧ wF W0 15 t = none ∧ wF W0 26 t = none := by decide +kernel
theorem W0_TxW {a : Nat} (h : NA a) : TxW W0 a := by
  intro t ht
  obtain ⟨h1, h2, h3⟩ := W0_t t ht
  rcases h with rfl | rfl | rfl
  · exact Or.inl h1
  · exact Or.inl h2
  · exact Or.inl h3
