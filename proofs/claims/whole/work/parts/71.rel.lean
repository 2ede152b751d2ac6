-- both objects in one world: the relation
def ImR (w : Wd) : Prop := wI w 78 3 = wI w 0 3 ∧ TxW w 12 ∧ (¬ wI w 0 3 = 0 → ∀ t, Gd (asR (wI w 80) t) ∧ sN (asR (wI w 80) t) 2 ≤ 9999 ∧ NR w 12 (asR (wI w 80) t))
def shS (w : Wd) : Sh := (wI w 82, wI w 83, wI w 84)
def slS (w : Wd) : Sl := (wI w 85, wI w 86, wI w 87, wI w 88, wI w 89)
def ShA (w : Wd) : Prop := ShR w (shS w) ∧ ShOk (shS w) ∧ ShV (shS w)
def SlA (w : Wd) : Prop := SlR w (slS w) ∧ ∀ q, q < 5 → ∃ n, n ≤ 24 ∧ wI w 88 q = nI n
def TpA (w : Wd) : Prop := ∃ n, n ≤ 96 ∧ wI w 78 15 = nI n ∧ wI w 0 8 = nI n ∧ TpB (wI w 92) n ∧ ∀ j, j < n → wI w 46 j = sx8 (wI w 92 j)
def WtA (w : Wd) : Prop := ∃ W, W ≤ 60 ∧ wI w 78 30 = nI W ∧ wI w 0 10 = nI W ∧ ∀ j, j < W → wI w 47 j = wI w 96 j
def Rel (w : Wd) : Prop := Wf w ∧ (98 ≤ wn w ∧ wn w % 3 = 2) ∧ TxW w 1 ∧ (Gd (wI w 79) ∧ sN (wI w 79) 2 ≤ 9999 ∧ NR w 1 (wI w 79)) ∧ ImR w ∧ ShA w ∧ SlA w ∧ TpA w ∧ WtA w
section
variable {S : Nat → Prop} {w w' : Wd}
theorem TxW.sm {a : Nat} (h : TxW w a) (hS : Sm S w w') : TxW w' a := by
  intro t ht
  rw [hS.F]
  rcases h t ht with e | ⟨c, e, hc⟩
  · exact Or.inl e
  · exact Or.inr ⟨c, e, hS.K.mpr hc⟩
theorem ImR.sm (h : ImR w) (hS : Sm S w w') (hn : ∀ i, i = 0 ∨ i = 78 ∨ i = 80 ∨ (12 ≤ i ∧ i ≤ 22) ∨ (98 ≤ i ∧ ¬ i % 3 = 1) → ¬ S i) : ImR w' := by
  obtain ⟨h1, h2, h3⟩ := h
  have e0 := hS.row (hn 0 (by omega))
  have e80 := hS.row (hn 80 (by omega))
  refine ⟨by rw [e0, hS.row (hn 78 (by omega))]; exact h1, h2.sm hS, fun hk t => ?_⟩
  rw [e0] at hk
  rw [e80]
  obtain ⟨a1, a2, a3⟩ := h3 hk t
  exact ⟨a1, a2, a3.sm hS (fun i hi => hn i (by omega))⟩
theorem ShA.sm (h : ShA w) (hS : Sm S w w') (hn : ∀ i, (50 ≤ i ∧ i ≤ 57) ∨ i = 82 ∨ i = 83 ∨ i = 84 → ¬ S i) : ShA w' := by
  have e : shS w' = shS w := by
    unfold shS
    rw [hS.row (hn 82 (by omega)), hS.row (hn 83 (by omega)), hS.row (hn 84 (by omega))]
  obtain ⟨h1, h2, h3⟩ := h
  refine ⟨?_, by rw [e]; exact h2, by rw [e]; exact h3⟩
  rw [e]
  intro k hk
  rw [hS.row (hn (50 + 2 * k) (by omega)), hS.row (hn (50 + 2 * k + 1) (by omega))]
  exact h1 k hk
theorem TpA.sm (h : TpA w) (hS : Sm S w w') (hn : ∀ i, i = 0 ∨ i = 46 ∨ i = 78 ∨ i = 92 → ¬ S i) : TpA w' := by
  obtain ⟨n, h1, h2, h3, h4, h5⟩ := h
  exact ⟨n, h1, by rw [hS.row (hn 78 (by omega))]; exact h2, by rw [hS.row (hn 0 (by omega))]; exact h3, by rw [hS.row (hn 92 (by omega))]; exact h4, by rw [hS.row (hn 46 (by omega)), hS.row (hn 92 (by omega))]; exact h5⟩
theorem WtA.sm (h : WtA w) (hS : Sm S w w') (hn : ∀ i, i = 0 ∨ i = 47 ∨ i = 78 ∨ i = 96 → ¬ S i) : WtA w' := by
  obtain ⟨n, h1, h2, h3, h4⟩ := h
  exact ⟨n, h1, by rw [hS.row (hn 78 (by omega))]; exact h2, by rw [hS.row (hn 0 (by omega))]; exact h3, by rw [hS.row (hn 47 (by omega)), hS.row (hn 96 (by omega))]; exact h4⟩
theorem SlA.sm (h : SlA w) (hS : Sm S w w') (hn : ∀ i, (58 ≤ i ∧ i ≤ 77) ∨ (85 ≤ i ∧ i ≤ 89) → ¬ S i) : SlA w' := by
  have e : slS w' = slS w := by
    unfold slS
    rw [hS.row (hn 85 (by omega)), hS.row (hn 86 (by omega)), hS.row (hn 87 (by omega)), hS.row (hn 88 (by omega)), hS.row (hn 89 (by omega))]
  refine ⟨?_, by rw [hS.row (hn 88 (by omega))]; exact h.2⟩
  rw [e]
  exact h.1.sq (fun i hi => hS.row (hn i (Or.inl hi)))
end
theorem Sm.wn {S : Nat → Prop} {w w' : Wd} (h : Sm S w w') : wn w' = wn w := by
  obtain ⟨J, rfl, -⟩ := h
  rfl
/-- the class went on to s', and the reference did -/
theorem Rel.cnms {w w1 w2 : Wd} {s' : Nat → Int32} (h : Rel w) (h1 : CN w w1 s') (h2 : MS w1 w2 s') (hG : Gd s') (h99 : sN s' 2 ≤ 9999) : Rel w2 := by
  obtain ⟨r1, r2, r3, r4, r5, r6, r7, r8, r9⟩ := h
  have hS : Sm (fun i => scX i ∨ scP i) w w2 := (h1.2.mono (fun i e => Or.inl e)).tr (h2.2.mono (fun i e => Or.inr e))
  have nX : ∀ i, (i = 0 ∨ (12 ≤ i ∧ i ≤ 22) ∨ (43 ≤ i ∧ i ≤ 78) ∨ i = 80 ∨ (82 ≤ i ∧ i ≤ 89) ∨ i = 92 ∨ i = 96 ∨ (98 ≤ i ∧ ¬ i % 3 = 1)) → ¬ (scX i ∨ scP i) := by
    intro i hi e
    unfold scX scK scP at e
    omega
  refine ⟨hS.wf r1, by rw [hS.wn]; exact r2, r3.sm hS, ?_, r5.sm hS (fun i hi => nX i (by omega)), r6.sm hS (fun i hi => nX i (by omega)), r7.sm hS (fun i hi => nX i (by omega)), r8.sm hS (fun i hi => nX i (by omega)), r9.sm hS (fun i hi => nX i (by omega))⟩
  rw [h2.1]
  exact ⟨hG, h99, h1.1.sm h2.2 (fun i hi e => by unfold scP at e; omega)⟩
theorem W0_sh : ∀ k, k < 4 → wI W0 (50 + 2 * k) 0 = wI W0 82 k ∧ wI W0 (50 + 2 * k) 1 = wI W0 83 k ∧ wI W0 82 k = -1 ∧ wI W0 83 k = nI 0 := by decide +kernel
theorem W0_sp : ∀ k, k < 4 → ∀ j, j < 24 → wI W0 (50 + 2 * k + 1) j = wI W0 84 (24 * k + j) ∧ wI W0 84 (24 * k + j) = 0 := by decide +kernel
theorem W0_sl : ∀ k, k < 5 → wI W0 (58 + 4 * k) 0 = wI W0 85 k ∧ wI W0 85 k = 0 ∧ wI W0 88 k = nI 0 := by decide +kernel
theorem W0_f : wI W0 78 3 = wI W0 0 3 ∧ wI W0 0 3 = 0 ∧ wI W0 78 15 = nI 0 ∧ wI W0 0 8 = nI 0 ∧ wI W0 78 30 = nI 0 ∧ wI W0 0 10 = nI 0 := by decide +kernel
theorem s0_99 : sN (wI W0 79) 2 ≤ 9999 := by decide +kernel
theorem sh_1 (w : Wd) : (shS w).1 = wI w 82 := rfl
theorem sh_2 (w : Wd) : (shS w).2.1 = wI w 83 := rfl
theorem sh_3 (w : Wd) : (shS w).2.2 = wI w 84 := rfl
theorem sl_1 (w : Wd) : (slS w).1 = wI w 85 := rfl
theorem W0_ShA : ShA W0 := by
  refine ⟨fun k hk => ?_, fun k hk => ?_, fun k hk j hj => Or.inr ?_⟩
  · rw [sh_1, sh_2, sh_3]
    obtain ⟨a1, a2, -, -⟩ := W0_sh k hk
    exact ⟨a1, a2, fun j hj => (W0_sp k hk j hj).1⟩
  · rw [sh_1, sh_2]
    obtain ⟨-, -, a3, a4⟩ := W0_sh k hk
    exact ⟨Or.inl a3, 0, Nat.zero_le _, a4⟩
  · rw [sh_3, (W0_sp k hk j hj).2]
    exact ⟨by decide, by decide⟩
theorem W0_SlA : SlA W0 := by
  refine ⟨fun k hk => ?_, fun q hq => ⟨0, Nat.zero_le _, (W0_sl q hq).2.2⟩⟩
  obtain ⟨a1, a2, a3⟩ := W0_sl k hk
  rw [sl_1]
  refine ⟨a1, Or.inl a2, fun h => ?_, fun h => ?_, fun h => ?_⟩ <;> (rw [a2] at h; exact absurd h (by decide))
theorem W0_Rel : Rel W0 := by
  obtain ⟨f1, f2, f3, f4, f5, f6⟩ := W0_f
  refine ⟨W0_wf, by rw [W0_wn]; decide, W0_TxW NA1, ⟨s0_Gd, s0_99, W0_NR⟩, ⟨f1, W0_TxW (Or.inr (Or.inl rfl)), fun h => absurd f2 h⟩, W0_ShA, W0_SlA, ⟨0, Nat.zero_le _, f3, f4, fun j hj => absurd hj (Nat.not_lt_zero j), fun j hj => absurd hj (Nat.not_lt_zero j)⟩, ⟨0, Nat.zero_le _, f5, f6, fun j hj => absurd hj (Nat.not_lt_zero j)⟩⟩
