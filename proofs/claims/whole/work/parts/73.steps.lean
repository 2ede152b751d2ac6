-- the relation is kept: frames with references and new cells
section
variable {S P : Nat → Prop} {w w' : Wd}
theorem Ex.row (hE : Ex S P w w') (hw : Wf w) {i : Nat} (hi : i < 98) (hn : ¬ S i) : wI w' i = wI w i := hE.2.2.1 i (hw.lt hi) hn
theorem ImR.ex (h : ImR w) (hw : Wf w) (hE : Ex S P w w') (hn : ∀ i, (12 ≤ i ∧ i ≤ 22) ∨ i = 80 ∨ (98 ≤ i ∧ ¬ i % 3 = 1) → ¬ S i) (hp : ∀ i, i = 15 ∨ 98 ≤ i → ¬ P i) (e78 : wI w' 78 3 = wI w 78 3) (e0 : wI w' 0 3 = wI w 0 3) : ImR w' := by
  obtain ⟨h1, h2, h3⟩ := h
  refine ⟨by rw [e78, e0]; exact h1, h2.ex (Or.inr (Or.inl rfl)) hw hE (hp 15 (Or.inl rfl)), fun hk t => ?_⟩
  rw [e0] at hk
  rw [hE.row hw (by decide) (hn 80 (by omega))]
  obtain ⟨a1, a2, a3⟩ := h3 hk t
  exact ⟨a1, a2, a3.ex (Or.inr (Or.inl rfl)) hw hE (fun i hi => hn i (by omega)) (fun i hi => hp i (by omega))⟩
theorem ShA.ex (h : ShA w) (hw : Wf w) (hE : Ex S P w w') (hn : ∀ i, (50 ≤ i ∧ i ≤ 57) ∨ i = 82 ∨ i = 83 ∨ i = 84 → ¬ S i) : ShA w' := by
  have e : shS w' = shS w := by
    unfold shS
    rw [hE.row hw (by decide) (hn 82 (by omega)), hE.row hw (by decide) (hn 83 (by omega)), hE.row hw (by decide) (hn 84 (by omega))]
  obtain ⟨h1, h2, h3⟩ := h
  refine ⟨?_, by rw [e]; exact h2, by rw [e]; exact h3⟩
  rw [e]
  intro k hk
  rw [hE.row hw (by omega) (hn (50 + 2 * k) (by omega)), hE.row hw (by omega) (hn (50 + 2 * k + 1) (by omega))]
  exact h1 k hk
theorem SlA.ex (h : SlA w) (hw : Wf w) (hE : Ex S P w w') (hn : ∀ i, (58 ≤ i ∧ i ≤ 77) ∨ (85 ≤ i ∧ i ≤ 89) → ¬ S i) : SlA w' := by
  have e : slS w' = slS w := by
    unfold slS
    rw [hE.row hw (by decide) (hn 85 (by omega)), hE.row hw (by decide) (hn 86 (by omega)), hE.row hw (by decide) (hn 87 (by omega)), hE.row hw (by decide) (hn 88 (by omega)), hE.row hw (by decide) (hn 89 (by omega))]
  refine ⟨?_, by rw [hE.row hw (by decide) (hn 88 (by omega))]; exact h.2⟩
  rw [e]
  exact h.1.sq (fun i hi => hE.row hw (by unfold scSl at hi; omega) (hn i (Or.inl hi)))
theorem TpA.ex (h : TpA w) (hw : Wf w) (hE : Ex S P w w') (hn : ∀ i, i = 46 ∨ i = 92 → ¬ S i) (e78 : wI w' 78 15 = wI w 78 15) (e0 : wI w' 0 8 = wI w 0 8) : TpA w' := by
  obtain ⟨n, h1, h2, h3, h4, h5⟩ := h
  exact ⟨n, h1, by rw [e78]; exact h2, by rw [e0]; exact h3, by rw [hE.row hw (by decide) (hn 92 (by omega))]; exact h4, by rw [hE.row hw (by decide) (hn 46 (by omega)), hE.row hw (by decide) (hn 92 (by omega))]; exact h5⟩
theorem WtA.ex (h : WtA w) (hw : Wf w) (hE : Ex S P w w') (hn : ∀ i, i = 47 ∨ i = 96 → ¬ S i) (e78 : wI w' 78 30 = wI w 78 30) (e0 : wI w' 0 10 = wI w 0 10) : WtA w' := by
  obtain ⟨n, h1, h2, h3, h4⟩ := h
  exact ⟨n, h1, by rw [e78]; exact h2, by rw [e0]; exact h3, by rw [hE.row hw (by decide) (hn 47 (by omega)), hE.row hw (by decide) (hn 96 (by omega))]; exact h4⟩
end
/-- the class thought of another night, the reference of another row; both came back -/
theorem Rel.sth {w w1 w2 : Wd} (h : Rel w) (h1 : Sth w w1) (h2 : MS w1 w2 (wI w 79)) : Rel w2 := by
  obtain ⟨r1, r2, r3, r4, r5, r6, r7, r8, r9⟩ := h
  have hE : Ex (fun i => scT2 i ∨ scP i) p26 w w2 := ((Sq.ex h1).mono (fun i e => Or.inl e) (fun i e => e)).tr (Sm.ex (h2.2.mono (fun i e => Or.inr e)))
  have nX : ∀ i, (i ≤ 22 ∨ (43 ≤ i ∧ i ≤ 78) ∨ i = 80 ∨ (82 ≤ i ∧ i ≤ 89) ∨ i = 92 ∨ i = 96 ∨ (98 ≤ i ∧ ¬ i % 3 = 1)) → ¬ (scT2 i ∨ scP i) := by
    intro i hi e
    unfold scT2 scK scP at e
    omega
  have nP : ∀ i, ¬ i = 26 → ¬ p26 i := fun i hi e => hi e
  have e0 : wI w2 0 = wI w 0 := hE.row r1 (by decide) (nX 0 (by omega))
  have e78 : wI w2 78 = wI w 78 := hE.row r1 (by decide) (nX 78 (by omega))
  have hw1 : Wf w1 := Sth.wf h1 r1
  have en : wn w2 = wn w := h2.2.wn.trans h1.1
  refine ⟨h2.2.wf hw1, by rw [en]; exact r2, r3.ex NA1 r1 hE (nP _ (by decide)), ?_, r5.ex r1 hE (fun i hi => nX i (by omega)) (fun i hi => nP i (by omega)) (by rw [e78]) (by rw [e0]), r6.ex r1 hE (fun i hi => nX i (by omega)), r7.ex r1 hE (fun i hi => nX i (by omega)), r8.ex r1 hE (fun i hi => nX i (by omega)) (by rw [e78]) (by rw [e0]), r9.ex r1 hE (fun i hi => nX i (by omega)) (by rw [e78]) (by rw [e0])⟩
  rw [h2.1]
  exact ⟨r4.1, r4.2.1, r4.2.2.ex NA1 r1 hE (fun i hi => nX i (by omega)) (fun i hi => nP i (by omega))⟩
