-- the reference's reader stands for a pure one
def PsR (w : Wd) (T : Nat → Int32) (n at0 : Nat) (p : PS) : Prop :=
  wI w 92 = T ∧ wI w 78 15 = nI n ∧ TkR (wI w 78) p.1 ∧ wI w 78 21 = nI p.2.1 ∧ wI w 78 22 = nI p.2.2.1 ∧ wI w 78 23 = nI p.2.2.2.1 ∧ wI w 78 24 = nI at0 ∧ wI w 78 25 = nI p.2.2.2.2.1 ∧ wI w 79 = p.2.2.2.2.2
theorem PsR.nx {w : Wd} {T : Nat → Int32} {n at0 : Nat} {p : PS} (h : PsR w T n at0 p) {f : Nat → Int32} (h1 : TkR f (tokF T n p.1)) (h2 : TkO (wI w 78) f) : PsR (sR w 78 f) T n at0 (psNx T n p) := by
  obtain ⟨a1, a2, a3, a4, a5, a6, a7, a8, a9⟩ := h
  refine ⟨?_, ?_, ?_, ?_, ?_, ?_, ?_, ?_, ?_⟩
  · rw [wI_sR_n _ (by decide)]; exact a1
  · rw [wI_sR_s, h2 15 (by decide)]; exact a2
  · rw [wI_sR_s]; exact h1
  · rw [wI_sR_s, h2 21 (by decide)]; exact a4
  · rw [wI_sR_s, h2 22 (by decide)]; exact a5
  · rw [wI_sR_s, h2 23 (by decide)]; exact a6
  · rw [wI_sR_s, h2 24 (by decide)]; exact a7
  · rw [wI_sR_s, h2 25 (by decide)]; exact a8
  · rw [wI_sR_n _ (by decide)]; exact a9
theorem PsR.st {w : Wd} {T : Nat → Int32} {n at0 : Nat} {p : PS} (h : PsR w T n at0 p) (a b : Int32) : PsR (sR (sR w 79 (upd (upd (wI w 79) (at0 + 2 * p.2.2.2.1) a) (at0 + 2 * p.2.2.2.1 + 1) b)) 78 (upd (wI w 78) 23 (nI (p.2.2.2.1 + 1)))) T n at0 (psSt at0 a b p) := by
  obtain ⟨a1, a2, a3, a4, a5, a6, a7, a8, a9⟩ := h
  obtain ⟨t1, t2, t3, t4, t5⟩ := a3
  refine ⟨?_, ?_, ⟨?_, ?_, ?_, ?_, ?_⟩, ?_, ?_, ?_, ?_, ?_, ?_⟩
  · rw [wI_sR_n _ (by decide), wI_sR_n _ (by decide)]; exact a1
  · rw [wI_sR_s, pk_un (by decide)]; exact a2
  · rw [wI_sR_s, pk_un (by decide)]; exact t1
  · rw [wI_sR_s, pk_un (by decide)]; exact t2
  · rw [wI_sR_s, pk_un (by decide)]; exact t3
  · rw [wI_sR_s, pk_un (by decide)]; exact t4
  · rw [wI_sR_s, pk_un (by decide)]; exact t5
  · rw [wI_sR_s, pk_un (by decide)]; exact a4
  · rw [wI_sR_s, pk_un (by decide)]; exact a5
  · rw [wI_sR_s, pk_us]; rfl
  · rw [wI_sR_s, pk_un (by decide)]; exact a7
  · rw [wI_sR_s, pk_un (by decide)]; exact a8
  · rw [wI_sR_n _ (by decide), wI_sR_s, a9]; rfl
