theorem sR_id (w : Wd) (a : Nat) : sR w a (wI w a) = w := by
  obtain ⟨w1, w2, w3, w4⟩ := w
  unfold sR
  simp only [wI, Prod.mk.injEq, true_and, and_true]
  funext i
  by_cases h : i = a
  · rw [if_pos h, h]
  · rw [if_neg h]
theorem sR_sw (w : Wd) {a b : Nat} (h : a ≠ b) (f k : Nat → Int32) : sR (sR w a f) b k = sR (sR w b k) a f := by
  obtain ⟨w1, w2, w3, w4⟩ := w
  unfold sR
  simp only [Prod.mk.injEq, true_and, and_true]
  funext i
  by_cases h1 : i = a
  · have h2 : ¬ i = b := fun e => h (h1.symm.trans e)
    rw [if_neg h2, if_pos h1, if_pos h1]
  · rw [if_neg h1, if_neg h1]
theorem sR4 (w : Wd) {a b : Nat} (h : a ≠ b) (f k f' k' : Nat → Int32) : sR (sR (sR (sR w a f) b k) a f') b k' = sR (sR w a f') b k' := by
  rw [sR_sw (sR w a f) (Ne.symm h) k f', sR_sR w a, sR_sR]
