-- the relation is kept: frames with references and new cells
section
variable {S P : Nat → Prop} {w w' : Wd}
theorem Ex.row (hE : Ex S P w w') (hw : Wf w) {i : Nat} (hi : i < 98) (hn : ¬ S i) : wI w' i = wI w i := hE.2.2.1 i (hw.lt hi) hn
theorem ImR.ex (h : ImR w) (hw : Wf w) (hE : Ex S P w w') (hn : ∀ i, (12 ≤ i ∧ i ≤ 22) ∨ i = 80 ∨ (98 ≤ i ∧ ¬ i % 3 = 1) → ¬ S i) (hp : ∀ i, i = 15 ∨ 98 ≤ i → ¬ P i) (e78 : wI w' 78 3 = wI w 78 3) (e0 : wI w' 0 3 = wI w 0 3) : ImR w' := by
  obtain ⟨h1, h2, h3⟩ := h
  refine ⟨by rw [e78, e0]; exact h1, h2.ex (Or.inr (Or.inl rfl)) hw hE (hp 15 (Or.inl rfl)), fun hk t => ?_⟩
  rw [e0] at hk
  rw [hE.row hw (by decide) (hn 80 (by omega))]
  obtain ⟨a1, a2, a3⟩ := h3 hk t
  exact ⟨a1, a2, a3.ex (Or.inr (Or.inl rfl)) hw hE (fun i hi => hn i (by omega)) (fun i hi => hp i (by omega))⟩
theorem ShA.ex (h : ShA w) (hw : Wf w) (hE : Ex S P w w') (hn : ∀ i, (50 ≤ i ∧ i ≤ 57) ∨ i = 82 ∨ i = 83 ∨ i = 84 → ¬ S i) : ShA w' := by
  have e : shS w' = shS w := by
    unfold shS
    rw [hE.row hw (by decide) (hn 82 (by omega)), hE.row hw (by decide) (hn 83 (by omega)), hE.row hw (by decide) (hn 84 (by omega))]
  obtain ⟨h1, h2, h3⟩ := h
  refine ⟨?_, by rw [e]; exact h2, by rw [e]; exact h3⟩
  rw [e]
  intro k hk
  rw [hE.row hw (by omega) (hn (50 + 2 * k) (by omega)), hE.row hw (by omega) (hn (50 + 2 * k + 1) (by omega))]
  exact h1 k hk
theorem SlA.ex (h : SlA w) (hw : Wf w) (hE : Ex S P w w') (hn : ∀ i, (58 ≤ i ∧ i ≤ 77) ∨ (85 ≤ i ∧ i ≤ 89) → ¬ S i) : SlA w' := by
  have e : slS w' = slS w := by
    unfold slS
    rw [hE.row hw (by decide) (hn 85 (by omega)), hE.row hw (by decide) (hn 86 (by omega)), hE.row hw (by decide) (hn 87 (by omega)), hE.row hw (by decide) (hn 88 (by omega)), hE.row hw (by decide) (hn 89 (by omega))]
  refine ⟨?_, by rw [hE.row hw (by decide) (hn 88 (by omega))]; exact h.2⟩
  rw [e]
  exact h.1.sq (fun i hi => hE.row hw (by unfold scSl at hi; omega) (hn i (Or.inl hi)))
theorem TpA.ex (h : TpA w) (hw : Wf w) (hE : Ex S P w w') (hn : ∀ i, i = 46 ∨ i = 92 → ¬ S i) (e78 : wI w' 78 15 = wI w 78 15) (e0 : wI w' 0 8 = wI w 0 8) : TpA w' := by
  obtain ⟨n, h1, h2, h3, h4, h5⟩ := h
  exact ⟨n, h1, by rw [e78]; exact h2, by rw [e0]; exact h3, by rw [hE.row hw (by decide) (hn 92 (by omega))]; exact h4, by rw [hE.row hw (by decide) (hn 46 (by omega)), hE.row hw (by decide) (hn 92 (by omega))]; exact h5⟩
theorem WtA.ex (h : WtA w) (hw : Wf w) (hE : Ex S P w w') (hn : ∀ i, i = 47 ∨ i = 96 → ¬ S i) (e78 : wI w' 78 30 = wI w 78 30) (e0 : wI w' 0 10 = wI w 0 10) : WtA w' := by
  obtain ⟨n, h1, h2, h3, h4⟩ := h
  exact ⟨n, h1, by rw [e78]; exact h2, by rw [e0]; exact h3, by rw [hE.row hw (by decide) (hn 47 (by omega)), hE.row hw (by decide) (hn 96 (by omega))]; exact h4⟩
end
/-- the class thought of another night, the reference of another row; both came back -/
theorem Rel.sth {w w1 w2 : Wd} (h : Rel w) (h1 : Sth w w1) (h2 : MS w1 w2 (wI w 79)) : Rel w2 := by
  obtain ⟨r1, r2, r3, r4, r5, r6, r7, r8, r9⟩ := h
  have hE : Ex (fun i => scT2 i ∨ scP i) p26 w w2 := ((Sq.ex h1).mono (fun i e => Or.inl e) (fun i e => e)).tr (Sm.ex (h2.2.mono (fun i e => Or.inr e)))
  have nX : ∀ i, (i ≤ 22 ∨ (43 ≤ i ∧ i ≤ 78) ∨ i = 80 ∨ (82 ≤ i ∧ i ≤ 89) ∨ i = 92 ∨ i = 96 ∨ (98 ≤ i ∧ ¬ i % 3 = 1)) → ¬ (scT2 i ∨ scP i) := by
    intro i hi e
    unfold scT2 scK scP at e
    omega
  have nP : ∀ i, ¬ i = 26 → ¬ p26 i := fun i hi e => hi e
  have e0 : wI w2 0 = wI w 0 := hE.row r1 (by decide) (nX 0 (by omega))
  have e78 : wI w2 78 = wI w 78 := hE.row r1 (by decide) (nX 78 (by omega))
  have hw1 : Wf w1 := Sth.wf h1 r1
  have en : wn w2 = wn w := h2.2.wn.trans h1.1
  refine ⟨h2.2.wf hw1, by rw [en]; exact r2, r3.ex NA1 r1 hE (nP _ (by decide)), ?_, r5.ex r1 hE (fun i hi => nX i (by omega)) (fun i hi => nP i (by omega)) (by rw [e78]) (by rw [e0]), r6.ex r1 hE (fun i hi => nX i (by omega)), r7.ex r1 hE (fun i hi => nX i (by omega)), r8.ex r1 hE (fun i hi => nX i (by omega)) (by rw [e78]) (by rw [e0]), r9.ex r1 hE (fun i hi => nX i (by omega)) (by rw [e78]) (by rw [e0])⟩
  rw [h2.1]
  exact ⟨r4.1, r4.2.1, r4.2.2.ex NA1 r1 hE (fun i hi => nX i (by omega)) (fun i hi => nP i (by omega))⟩
theorem Rel.text {w w1 w2 : Wd} {s' : Nat → Int32} (h : Rel w) (hG : GG s') (p1 : Wf w1) (p2 : NR w1 1 s') (p3 : TxW w 1 → TxW w1 1) (p4 : wI w1 0 = upd (wI w 0) 8 0) (p5 : wn w1 = wn w ∨ wn w1 = wn w + 3) (p6 : Ex scTx pTx w w1) (m1 : wI w2 79 = s') (m2 : wI w2 78 15 = 0) (m3 : ∀ j, j < 15 ∨ 25 < j → wI w2 78 j = wI w1 78 j) (m4 : Sm scT w1 w2) : Rel w2 := by
  obtain ⟨r1, r2, r3, r4, r5, r6, r7, r8, r9⟩ := h
  have hE : Ex (fun i => scTx i ∨ scT i) pTx w w2 := (p6.mono (fun i e => Or.inl e) (fun i e => e)).tr (Sm.ex (m4.mono (fun i e => Or.inr e)))
  have nX : ∀ i, ((12 ≤ i ∧ i ≤ 22) ∨ (46 ≤ i ∧ i ≤ 77) ∨ i = 80 ∨ (82 ≤ i ∧ i ≤ 89) ∨ i = 92 ∨ i = 96 ∨ (98 ≤ i ∧ ¬ i % 3 = 1)) → ¬ (scTx i ∨ scT i) := by
    intro i hi e
    unfold scTx scT at e
    omega
  have nP : ∀ i, ¬ i = 4 → ¬ i = 43 → ¬ pTx i := fun i h1 h2 e => by unfold pTx at e; omega
  have e0 : wI w2 0 = upd (wI w 0) 8 0 := (m4.row (fun e => by unfold scT at e; omega)).trans p4
  have e78 : ∀ j, j < 15 ∨ 25 < j → wI w2 78 j = wI w 78 j := fun j hj => by
    rw [m3 j hj, p6.row r1 (by decide) (fun e => by unfold scTx at e; omega)]
  refine ⟨m4.wf p1, by rw [m4.wn]; omega, (p3 r3).sm m4, ?_, r5.ex r1 hE (fun i hi => nX i (by omega)) (fun i hi => nP i (by omega) (by omega)) (e78 3 (by omega)) (by rw [e0, pk_un (by decide)]), r6.ex r1 hE (fun i hi => nX i (by omega)), r7.ex r1 hE (fun i hi => nX i (by omega)), ⟨0, Nat.zero_le _, m2, by rw [e0, pk_us]; rfl, fun j hj => absurd hj (Nat.not_lt_zero j), fun j hj => absurd hj (Nat.not_lt_zero j)⟩, r9.ex r1 hE (fun i hi => nX i (by omega)) (e78 30 (by omega)) (by rw [e0, pk_un (by decide)])⟩
  rw [m1]
  exact ⟨hG.1, hG.2, p2.sm m4 (fun i hi e => by unfold scT at e; omega)⟩
/-- tell: both have one more minute waiting -/
theorem Rel.tell {w w1 w2 : Wd} {W : Nat} {v : Int32} (h : Rel w) (hW : W < 60) (hv : ∀ j, j < W → wI w 47 j = wI w 96 j) (p : w1 = sR (sR w 47 (upd (wI w 47) W v)) 0 (upd (wI w 0) 10 (nI (W + 1)))) (m : w2 = sR (sR w1 96 (upd (wI w1 96) W v)) 78 (upd (wI w1 78) 30 (nI (W + 1)))) : Rel w2 := by
  obtain ⟨r1, r2, r3, r4, r5, r6, r7, r8, r9⟩ := h
  have hS : Sm (fun i => i = 0 ∨ i = 47 ∨ i = 78 ∨ i = 96) w w2 := by
    rw [m, p]
    exact (((Sm.sR (by omega)).tr (Sm.sR (by omega))).tr (Sm.sR (by omega))).tr (Sm.sR (by omega))
  have hE : Ex (fun i => i = 0 ∨ i = 47 ∨ i = 78 ∨ i = 96) (fun _ => False) w w2 := Sm.ex hS
  have e0 : wI w2 0 = upd (wI w 0) 10 (nI (W + 1)) := by rw [m, wI_sR_n _ (by decide), wI_sR_n _ (by decide), p, wI_sR_s]
  have e78 : wI w2 78 = upd (wI w 78) 30 (nI (W + 1)) := by rw [m, wI_sR_s, p, wI_sR_n _ (by decide), wI_sR_n _ (by decide)]
  have e47 : wI w2 47 = upd (wI w 47) W v := by rw [m, wI_sR_n _ (by decide), wI_sR_n _ (by decide), p, wI_sR_n _ (by decide), wI_sR_s]
  have e96 : wI w2 96 = upd (wI w 96) W v := by rw [m, wI_sR_n _ (by decide), wI_sR_s, p, wI_sR_n _ (by decide), wI_sR_n _ (by decide)]
  refine ⟨hS.wf r1, by rw [hS.wn]; exact r2, r3.sm hS, ?_, r5.ex r1 hE (fun i hi => by omega) (fun i hi e => e) (by rw [e78, pk_un (by decide)]) (by rw [e0, pk_un (by decide)]), r6.sm hS (fun i hi => by omega), r7.sm hS (fun i hi => by omega), r8.ex r1 hE (fun i hi => by omega) (by rw [e78, pk_un (by decide)]) (by rw [e0, pk_un (by decide)]), ⟨W + 1, by omega, by rw [e78, pk_us], by rw [e0, pk_us], fun j hj => ?_⟩⟩
  · rw [hS.row (show ¬ (79 = 0 ∨ 79 = 47 ∨ 79 = 78 ∨ 79 = 96) by omega)]
    exact ⟨r4.1, r4.2.1, r4.2.2.sm hS (fun i hi => by omega)⟩
  · rw [e47, e96]
    by_cases e : j = W
    · subst e; rw [pk_us, pk_us]
    · rw [pk_un e, pk_un e]; exact hv j (by omega)
/-- trim: both tapes are as short -/
theorem Rel.trim {w w1 w2 : Wd} {n : Nat} {v : Int32} (h : Rel w) (hn : n ≤ 96) (hv : inR v 0 n) (hT : TpB (wI w 92) n) (hB : ∀ j, j < n → wI w 46 j = sx8 (wI w 92 j)) (p : w1 = sR w 0 (upd (wI w 0) 8 v)) (m : w2 = sR w1 78 (upd (wI w1 78) 15 v)) : Rel w2 := by
  obtain ⟨r1, r2, r3, r4, r5, r6, r7, r8, r9⟩ := h
  obtain ⟨v1, v2⟩ := in_n hv (by decide) (by omega)
  have v3 := hv.2
  have hS : Sm (fun i => i = 0 ∨ i = 78) w w2 := by
    rw [m, p]
    exact (Sm.sR (by omega)).tr (Sm.sR (by omega))
  have hE : Ex (fun i => i = 0 ∨ i = 78) (fun _ => False) w w2 := Sm.ex hS
  have e0 : wI w2 0 = upd (wI w 0) 8 v := by rw [m, wI_sR_n _ (by decide), p, wI_sR_s]
  have e78 : wI w2 78 = upd (wI w 78) 15 v := by rw [m, wI_sR_s, p, wI_sR_n _ (by decide)]
  have e46 : wI w2 46 = wI w 46 := hS.row (by omega)
  have e92 : wI w2 92 = wI w 92 := hS.row (by omega)
  refine ⟨hS.wf r1, by rw [hS.wn]; exact r2, r3.sm hS, ?_, r5.ex r1 hE (fun i hi => by omega) (fun i hi e => e) (by rw [e78, pk_un (by decide)]) (by rw [e0, pk_un (by decide)]), r6.sm hS (fun i hi => by omega), r7.sm hS (fun i hi => by omega), ⟨v.toNatClampNeg, by omega, by rw [e78, pk_us]; exact v1, by rw [e0, pk_us]; exact v1, by rw [e92]; exact fun j hj => hT j (by omega), by rw [e46, e92]; exact fun j hj => hB j (by omega)⟩, r9.ex r1 hE (fun i hi => by omega) (by rw [e78, pk_un (by decide)]) (by rw [e0, pk_un (by decide)])⟩
  rw [hS.row (show ¬ (79 = 0 ∨ 79 = 78) by omega)]
  exact ⟨r4.1, r4.2.1, r4.2.2.sm hS (fun i hi => by omega)⟩
/-- sheets: both have the sheets R -/
theorem Rel.sheets {w w1 w2 : Wd} {R : Sh} (h : Rel w) (hO : ShOk R) (hV : ShV R) (p : CH w w1 R) (m : MH w1 w2 R) : Rel w2 := by
  obtain ⟨r1, r2, r3, r4, r5, r6, r7, r8, r9⟩ := h
  obtain ⟨m1, m2, m3, m4⟩ := m
  have hS : Sm (fun i => scSh i ∨ scH i) w w2 := (p.2.mono (fun i e => Or.inl e)).tr (m4.mono (fun i e => Or.inr e))
  have nX : ∀ i, (i ≤ 49 ∨ (58 ≤ i ∧ i ≤ 80) ∨ (85 ≤ i ∧ i ≤ 92) ∨ i = 96 ∨ 98 ≤ i) → ¬ (scSh i ∨ scH i) := by
    intro i hi e
    unfold scSh scH at e
    omega
  have eR : shS w2 = R := by
    unfold shS
    rw [m1, m2, m3]
  refine ⟨hS.wf r1, by rw [hS.wn]; exact r2, r3.sm hS, ?_, r5.sm hS (fun i hi => nX i (by omega)), ⟨?_, by rw [eR]; exact hO, by rw [eR]; exact hV⟩, r7.sm hS (fun i hi => nX i (by omega)), r8.sm hS (fun i hi => nX i (by omega)), r9.sm hS (fun i hi => nX i (by omega))⟩
  · rw [hS.row (nX 79 (by omega))]
    exact ⟨r4.1, r4.2.1, r4.2.2.sm hS (fun i hi => nX i (by omega))⟩
  · rw [eR]
    exact p.1.sm m4 (fun i hi e => by unfold scSh at hi; unfold scH at e; omega)
/-- slots: both have the slots L -/
theorem Rel.slots {w w1 w2 : Wd} {L : Sl} (h : Rel w) (hz : ∀ q, q < 5 → ∃ n, n ≤ 24 ∧ L.2.2.2.1 q = nI n) (p : CL1 w w1 L) (m : ML w1 w2 L) : Rel w2 := by
  obtain ⟨r1, r2, r3, r4, r5, r6, r7, r8, r9⟩ := h
  obtain ⟨m1, m2, m3, m4, m5, m6⟩ := m
  have hS : Sm (fun i => scSl i ∨ scL i) w w2 := (p.2.mono (fun i e => Or.inl e)).tr (m6.mono (fun i e => Or.inr e))
  have nX : ∀ i, (i ≤ 57 ∨ (78 ≤ i ∧ i ≤ 84) ∨ 90 ≤ i) → ¬ (scSl i ∨ scL i) := by
    intro i hi e
    unfold scSl scL at e
    omega
  have eL : slS w2 = L := by
    unfold slS
    rw [m1, m2, m3, m4, m5]
  refine ⟨hS.wf r1, by rw [hS.wn]; exact r2, r3.sm hS, ?_, r5.sm hS (fun i hi => nX i (by omega)), r6.sm hS (fun i hi => nX i (by omega)), ⟨?_, by rw [m4]; exact hz⟩, r8.sm hS (fun i hi => nX i (by omega)), r9.sm hS (fun i hi => nX i (by omega))⟩
  · rw [hS.row (nX 79 (by omega))]
    exact ⟨r4.1, r4.2.1, r4.2.2.sm hS (fun i hi => nX i (by omega))⟩
  · rw [eL]
    exact p.1.sq (fun i hi => m6.row (fun e => by unfold scSl at hi; unfold scL at e; omega))
theorem hz_lay {L : Sl} {R : Sh} {s : Nat → Int32} (k th v : Int32) (hz : ∀ q, q < 5 → ∃ n, n ≤ 24 ∧ L.2.2.2.1 q = nI n) (hR : th.toInt = 2 → ∃ n, n ≤ 24 ∧ R.2.1 v.toNatClampNeg = nI n) : ∀ q, q < 5 → ∃ n, n ≤ 24 ∧ (F_lay L R s k th v).2.2.2.2.1 q = nI n := by
  intro q hq
  unfold F_lay
  by_cases c1 : ¬ okLay s k th v
  · rw [if_pos c1]; exact hz q hq
  · rw [if_neg c1]
    by_cases c2 : th.toInt = 2 ∧ (R.1 v.toNatClampNeg).toInt < 0
    · rw [if_pos c2]; exact hz q hq
    · rw [if_neg c2]
      show ∃ n, n ≤ 24 ∧ (if th.toInt = 2 then upd L.2.2.2.1 k.toNatClampNeg (R.2.1 v.toNatClampNeg) else L.2.2.2.1) q = nI n
      by_cases c3 : th.toInt = 2
      · rw [if_pos c3]
        by_cases e : q = k.toNatClampNeg
        · rw [e, pk_us]; exact hR c3
        · rw [pk_un e]; exact hz q hq
      · rw [if_neg c3]; exact hz q hq
