-- both objects in one world: the relation
def ImR (w : Wd) : Prop := wI w 78 3 = wI w 0 3 ∧ TxW w 12 ∧ (¬ wI w 0 3 = 0 → ∀ t, Gd (asR (wI w 80) t) ∧ sN (asR (wI w 80) t) 2 ≤ 9999 ∧ NR w 12 (asR (wI w 80) t))
def shS (w : Wd) : Sh := (wI w 82, wI w 83, wI w 84)
def slS (w : Wd) : Sl := (wI w 85, wI w 86, wI w 87, wI w 88, wI w 89)
def ShA (w : Wd) : Prop := ShR w (shS w) ∧ ShOk (shS w) ∧ ShV (shS w)
def SlA (w : Wd) : Prop := SlR w (slS w) ∧ ∀ q, q < 5 → ∃ n, n ≤ 24 ∧ wI w 88 q = nI n
def TpA (w : Wd) : Prop := ∃ n, n ≤ 96 ∧ wI w 78 15 = nI n ∧ wI w 0 8 = nI n ∧ TpB (wI w 92) n ∧ ∀ j, j < n → wI w 46 j = sx8 (wI w 92 j)
def WtA (w : Wd) : Prop := ∃ W, W ≤ 60 ∧ wI w 78 30 = nI W ∧ wI w 0 10 = nI W ∧ ∀ j, j < W → wI w 47 j = wI w 96 j
def Rel (w : Wd) : Prop := Wf w ∧ (98 ≤ wn w ∧ wn w % 3 = 2) ∧ TxW w 1 ∧ (Gd (wI w 79) ∧ sN (wI w 79) 2 ≤ 9999 ∧ NR w 1 (wI w 79)) ∧ ImR w ∧ ShA w ∧ SlA w ∧ TpA w ∧ WtA w
section
variable {S : Nat → Prop} {w w' : Wd}
theorem TxW.sm {a : Nat} (h : TxW w a) (hS : Sm S w w') : TxW w' a := by
  intro t ht
  rw [hS.F]
  rcases h t ht with e | ⟨c, e, hc⟩
  · exact Or.inl e
  · exact Or.inr ⟨c, e, hS.K.mpr hc⟩
theorem ImR.sm (h : ImR w) (hS : Sm S w w') (hn : ∀ i, i = 0 ∨ i = 78 ∨ i = 80 ∨ (12 ≤ i ∧ i ≤ 22) ∨ (98 ≤ i ∧ ¬ i % 3 = 1) → ¬ S i) : ImR w' := by
  obtain ⟨h1, h2, h3⟩ := h
  have e0 := hS.row (hn 0 (by omega))
  have e80 := hS.row (hn 80 (by omega))
  refine ⟨by rw [e0, hS.row (hn 78 (by omega))]; exact h1, h2.sm hS, fun hk t => ?_⟩
  rw [e0] at hk
  rw [e80]
  obtain ⟨a1, a2, a3⟩ := h3 hk t
  exact ⟨a1, a2, a3.sm hS (fun i hi => hn i (by omega))⟩
theorem ShA.sm (h : ShA w) (hS : Sm S w w') (hn : ∀ i, (50 ≤ i ∧ i ≤ 57) ∨ i = 82 ∨ i = 83 ∨ i = 84 → ¬ S i) : ShA w' := by
  have e : shS w' = shS w := by
    unfold shS
    rw [hS.row (hn 82 (by omega)), hS.row (hn 83 (by omega)), hS.row (hn 84 (by omega))]
  obtain ⟨h1, h2, h3⟩ := h
  refine ⟨?_, by rw [e]; exact h2, by rw [e]; exact h3⟩
  rw [e]
  intro k hk
  rw [hS.row (hn (50 + 2 * k) (by omega)), hS.row (hn (50 + 2 * k + 1) (by omega))]
  exact h1 k hk
theorem TpA.sm (h : TpA w) (hS : Sm S w w') (hn : ∀ i, i = 0 ∨ i = 46 ∨ i = 78 ∨ i = 92 → ¬ S i) : TpA w' := by
  obtain ⟨n, h1, h2, h3, h4, h5⟩ := h
  exact ⟨n, h1, by rw [hS.row (hn 78 (by omega))]; exact h2, by rw [hS.row (hn 0 (by omega))]; exact h3, by rw [hS.row (hn 92 (by omega))]; exact h4, by rw [hS.row (hn 46 (by omega)), hS.row (hn 92 (by omega))]; exact h5⟩
theorem WtA.sm (h : WtA w) (hS : Sm S w w') (hn : ∀ i, i = 0 ∨ i = 47 ∨ i = 78 ∨ i = 96 → ¬ S i) : WtA w' := by
  obtain ⟨n, h1, h2, h3, h4⟩ := h
  exact ⟨n, h1, by rw [hS.row (hn 78 (by omega))]; exact h2, by rw [hS.row (hn 0 (by omega))]; exact h3, by rw [hS.row (hn 47 (by omega)), hS.row (hn 96 (by omega))]; exact h4⟩
end
