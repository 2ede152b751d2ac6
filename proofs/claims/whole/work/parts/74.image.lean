-- the relation is kept: images
theorem as_X {s : Nat → Int32} (h14 : sN s 1 ≤ 14) (x t : Nat → Int32) : SameX s (asR (asR s x) t) ∧ ∀ j, j < 40 → asR (asR s x) t j = s j := by
  have e : ∀ j, j < 2840 → asR (asR s x) t j = s j := fun j hj => by
    unfold asR
    rw [if_pos hj, if_pos hj]
  exact ⟨⟨e 1 (by decide), fun q hq j h1 h2 => e j (by omega)⟩, fun j hj => e j (by omega)⟩
theorem Rel.keep {w w1 w2 w3 : Wd} (h : Rel w) (p1 : CopyF w w1 12 1) (p2 : w2 = sR w1 0 (upd (wI w 0) 3 1)) (m : w3 = sR (sR w2 78 (upd (wI w2 78) 3 1)) 80 (asR (wI w2 79) (wI w2 80))) : Rel w3 := by
  obtain ⟨r1, r2, r3, r4, r5, r6, r7, r8, r9⟩ := h
  have h14 : sN (wI w 79) 1 ≤ 14 := r4.1.2.1.2
  have hA : NA 12 := Or.inr (Or.inl rfl)
  have hw1 : Wf w1 := p1.wf hA r1
  have hQ := p1.2.2.2.2.2
  have hE : Ex (fun i => (12 ≤ i ∧ i ≤ 22) ∨ i = 0 ∨ i = 78 ∨ i = 80) (fun i => i = 15) w w3 := by
    rw [m, p2]
    refine ((hQ.ex.mono (fun i e => Or.inl e) (fun i e => e)).tr (Sq.ex (Sq.sR (by omega)))).tr (Sq.ex ((Sq.sR (by omega)).tr (Sq.sR (by omega))))
  have hS3 : Sm (fun i => i = 0 ∨ i = 78 ∨ i = 80) w1 w3 := by
    rw [m, p2]
    exact ((Sm.sR (by omega)).tr (Sm.sR (by omega))).tr (Sm.sR (by omega))
  have e0 : wI w3 0 = upd (wI w 0) 3 1 := by rw [m, wI_sR_n _ (by decide), wI_sR_n _ (by decide), p2, wI_sR_s]
  have e78 : wI w3 78 = upd (wI w 78) 3 1 := by rw [m, wI_sR_n _ (by decide), wI_sR_s, p2, wI_sR_n _ (by decide), hQ.2.2.1 78 (by omega)]
  have e79 : wI w3 79 = wI w 79 := hE.row r1 (by decide) (by omega)
  have e80 : ∃ x, wI w3 80 = asR (wI w 79) x := ⟨wI w2 80, by rw [m, wI_sR_s, p2, wI_sR_n _ (by decide), hQ.2.2.1 79 (by omega)]⟩
  obtain ⟨x, e80⟩ := e80
  have hN1 : NR w3 12 (wI w 79) := (p1.nr hA h14 r4.2.2).sm hS3 (fun i hi => by omega)
  have hT : TxW w3 12 := by
    refine TxW.sm (w := w1) (fun t ht => ?_) hS3
    rw [p1.2.2.2.2.1 t ht]
    rcases r3 t ht with e | ⟨c, e, hc⟩
    · exact Or.inl e
    · exact Or.inr ⟨c, e, hQ.K.mpr hc⟩
  refine ⟨hS3.wf hw1, by rw [hS3.wn, hQ.1]; exact r2, r3.ex NA1 r1 hE (by omega), ?_, ⟨by rw [e0, e78, pk_us, pk_us], hT, fun _ t => ?_⟩, r6.ex r1 hE (fun i hi => by omega), r7.ex r1 hE (fun i hi => by omega), r8.ex r1 hE (fun i hi => by omega) (by rw [e78, pk_un (by decide)]) (by rw [e0, pk_un (by decide)]), r9.ex r1 hE (fun i hi => by omega) (by rw [e78, pk_un (by decide)]) (by rw [e0, pk_un (by decide)])⟩
  · rw [e79]
    exact ⟨r4.1, r4.2.1, r4.2.2.ex NA1 r1 hE (fun i hi => by omega) (fun i hi => by omega)⟩
  · rw [e80]
    obtain ⟨a1, a2⟩ := as_X h14 x t
    have hg := Gd_same ⟨r4.1, r4.2.1⟩ a1 a2
    exact ⟨hg.1, hg.2, hN1.same r4.1.2.2.2.2.2.2.2.2 a1 a2⟩
theorem Rel.back {w w1 w2 : Wd} (h : Rel w) (hk : ¬ wI w 0 3 = 0) (p1 : CopyF w w1 1 12) (m : w2 = sR w1 79 (asR (wI w1 80) (wI w1 79))) : Rel w2 := by
  obtain ⟨r1, r2, r3, r4, r5, r6, r7, r8, r9⟩ := h
  have hw1 : Wf w1 := p1.wf NA1 r1
  have hQ := p1.2.2.2.2.2
  obtain ⟨g1, g2, g3⟩ := r5.2.2 hk (wI w 79)
  have hE : Ex (fun i => (1 ≤ i ∧ i ≤ 11) ∨ i = 79) (fun i => i = 4) w w2 := by
    rw [m]
    exact (hQ.ex.mono (fun i e => Or.inl e) (fun i e => e)).tr (Sq.ex (Sq.sR (Or.inr rfl)))
  have hS3 : Sm (fun i => i = 79) w1 w2 := by
    rw [m]
    exact Sm.sR rfl
  have e79 : wI w2 79 = asR (wI w 80) (wI w 79) := by rw [m, wI_sR_s, hQ.2.2.1 80 (by omega), hQ.2.2.1 79 (by omega)]
  have hT : TxW w2 1 := by
    refine TxW.sm (w := w1) (fun t ht => ?_) hS3
    rw [p1.2.2.2.2.1 t ht]
    rcases r5.2.1 t ht with e | ⟨c, e, hc⟩
    · exact Or.inl e
    · exact Or.inr ⟨c, e, hQ.K.mpr hc⟩
  have e0 : wI w2 0 = wI w 0 := hE.row r1 (by decide) (by omega)
  have e78 : wI w2 78 = wI w 78 := hE.row r1 (by decide) (by omega)
  refine ⟨hS3.wf hw1, by rw [hS3.wn, hQ.1]; exact r2, hT, ?_, r5.ex r1 hE (fun i hi => by omega) (fun i hi => by omega) (by rw [e78]) (by rw [e0]), r6.ex r1 hE (fun i hi => by omega), r7.ex r1 hE (fun i hi => by omega), r8.ex r1 hE (fun i hi => by omega) (by rw [e78]) (by rw [e0]), r9.ex r1 hE (fun i hi => by omega) (by rw [e78]) (by rw [e0])⟩
  rw [e79]
  exact ⟨g1, g2, (p1.nr NA1 g1.2.1.2 g3).sm hS3 (fun i hi => by omega)⟩
theorem Rel.check {w w1 w2 : Wd} (h : Rel w) (p1 : wI w1 0 = upd (wI w 0) 10 0) (p2 : Sq scC2 p26 w w1) (m1 : wI w2 79 = wI w1 79) (m2 : wI w2 78 = upd (wI w1 78) 30 0) (m3 : Sm scC w1 w2) : Rel w2 := by
  obtain ⟨r1, r2, r3, r4, r5, r6, r7, r8, r9⟩ := h
  have hw1 : Wf w1 := Sq.wf p2 r1 (fun i e k => by unfold p26 at e; subst e; exact RF_txt NA3 k)
  have hE : Ex (fun i => scC2 i ∨ scC i) p26 w w2 := ((Sq.ex p2).mono (fun i e => Or.inl e) (fun i e => e)).tr (Sm.ex (m3.mono (fun i e => Or.inr e)))
  have nX : ∀ i, ((1 ≤ i ∧ i ≤ 22) ∨ (43 ≤ i ∧ i ≤ 77) ∨ i = 80 ∨ (82 ≤ i ∧ i ≤ 89) ∨ i = 92 ∨ i = 96 ∨ (98 ≤ i ∧ ¬ i % 3 = 1)) → ¬ (scC2 i ∨ scC i) := by
    intro i hi e
    unfold scC2 scT2 scK scC at e
    try unfold scP at e
    omega
  have nP : ∀ i, ¬ i = 26 → ¬ p26 i := fun i hi e => hi e
  have n1 : ∀ i, i = 78 ∨ i = 79 → wI w1 i = wI w i := fun i hi => p2.2.2.1 i (fun e => by unfold scC2 scT2 scK at e; omega)
  have e0 : wI w2 0 = upd (wI w 0) 10 0 := (m3.row (fun e => by unfold scC at e; try unfold scP at e; omega)).trans p1
  have e78 : wI w2 78 = upd (wI w 78) 30 0 := by rw [m2, n1 78 (by omega)]
  have e79 : wI w2 79 = wI w 79 := m1.trans (n1 79 (by omega))
  refine ⟨m3.wf hw1, by rw [m3.wn, p2.1]; exact r2, r3.ex NA1 r1 hE (nP _ (by decide)), ?_, r5.ex r1 hE (fun i hi => nX i (by omega)) (fun i hi => nP i (by omega)) (by rw [e78, pk_un (by decide)]) (by rw [e0, pk_un (by decide)]), r6.ex r1 hE (fun i hi => nX i (by omega)), r7.ex r1 hE (fun i hi => nX i (by omega)), r8.ex r1 hE (fun i hi => nX i (by omega)) (by rw [e78, pk_un (by decide)]) (by rw [e0, pk_un (by decide)]), ⟨0, Nat.zero_le _, by rw [e78, pk_us]; rfl, by rw [e0, pk_us]; rfl, fun j hj => absurd hj (Nat.not_lt_zero j)⟩⟩
  rw [e79]
  exact ⟨r4.1, r4.2.1, r4.2.2.ex NA1 r1 hE (fun i hi => nX i (by omega)) (fun i hi => nP i (by omega))⟩
theorem and_n (x : Int32) : ∃ c, c < 256 ∧ x &&& 255 = nI c := by
  refine ⟨(x &&& 255).toBitVec.toNat, ?_, ?_⟩
  · have h : (x &&& 255).toBitVec.toNat = x.toBitVec.toNat &&& 255 := by
      rw [Int32.toBitVec_and, BitVec.toNat_and]
      rfl
    rw [h]
    exact Nat.lt_succ_of_le Nat.and_le_right
  · apply Int32.toBitVec_inj.mp
    apply BitVec.eq_of_toNat_eq
    show _ = (BitVec.ofNat 32 _).toNat
    rw [BitVec.toNat_ofNat]
    exact (Nat.mod_eq_of_lt (x &&& 255).toBitVec.isLt).symm
theorem TpB_fd {T : Nat → Int32} {n : Nat} (h : TpB T n) (a b c : Int32) : TpB (fdR T n a b c 12) (n + 12) := by
  intro j hj
  unfold fdR
  by_cases e : n ≤ j ∧ j < n + 12
  · rw [if_pos e]
    exact and_n _
  · rw [if_neg e]
    exact h j (by omega)
theorem Rel.feed {w w1 w2 : Wd} {n : Nat} {a b c : Int32} (h : Rel w) (hn : n ≤ 84) (hT : TpB (wI w 92) n) (hB : ∀ j, j < n → wI w 46 j = sx8 (wI w 92 j)) (p1 : ∀ T : Nat → Int32, (∀ j, j < n → wI w 46 j = sx8 (T j)) → ∀ j, j < n + 12 → wI w1 46 j = sx8 (fdR T n a b c 12 j)) (p2 : wI w1 0 = upd (wI w 0) 8 (nI (n + 12))) (p3 : Sm (fun i => i = 0 ∨ i = 46) w w1) (m : w2 = sR (sR w1 92 (fdR (wI w1 92) n a b c 12)) 78 (upd (wI w1 78) 15 (nI (n + 12)))) : Rel w2 := by
  obtain ⟨r1, r2, r3, r4, r5, r6, r7, r8, r9⟩ := h
  have hS : Sm (fun i => i = 0 ∨ i = 46 ∨ i = 78 ∨ i = 92) w w2 := by
    rw [m]
    exact ((p3.mono (fun i e => by omega)).tr (Sm.sR (by omega))).tr (Sm.sR (by omega))
  have hE : Ex (fun i => i = 0 ∨ i = 46 ∨ i = 78 ∨ i = 92) (fun _ => False) w w2 := Sm.ex hS
  have e0 : wI w2 0 = upd (wI w 0) 8 (nI (n + 12)) := by rw [m, wI_sR_n _ (by decide), wI_sR_n _ (by decide), p2]
  have e78 : wI w2 78 = upd (wI w 78) 15 (nI (n + 12)) := by rw [m, wI_sR_s, p3.row (by omega)]
  have e92 : wI w2 92 = fdR (wI w 92) n a b c 12 := by rw [m, wI_sR_n _ (by decide), wI_sR_s, p3.row (by omega)]
  have e46 : wI w2 46 = wI w1 46 := by rw [m, wI_sR_n _ (by decide), wI_sR_n _ (by decide)]
  refine ⟨hS.wf r1, by rw [hS.wn]; exact r2, r3.sm hS, ?_, r5.ex r1 hE (fun i hi => by omega) (fun i hi e => e) (by rw [e78, pk_un (by decide)]) (by rw [e0, pk_un (by decide)]), r6.sm hS (fun i hi => by omega), r7.sm hS (fun i hi => by omega), ⟨n + 12, by omega, by rw [e78, pk_us], by rw [e0, pk_us], by rw [e92]; exact TpB_fd hT a b c, by rw [e46, e92]; exact p1 _ hB⟩, r9.ex r1 hE (fun i hi => by omega) (by rw [e78, pk_un (by decide)]) (by rw [e0, pk_un (by decide)])⟩
  rw [hS.row (show ¬ (79 = 0 ∨ 79 = 46 ∨ 79 = 78 ∨ 79 = 92) by omega)]
  exact ⟨r4.1, r4.2.1, r4.2.2.sm hS (fun i hi => by omega)⟩
