-- what is good stays good: the row
def GG (s : Nat → Int32) : Prop := Gd s ∧ sN s 2 ≤ 9999
theorem in_n {x : Int32} {lo hi : Int} (h : inR x lo hi) (hl : 0 ≤ lo) (hh : hi < 2 ^ 31) : x = nI x.toNatClampNeg ∧ (x.toNatClampNeg : Int) = x.toInt := by
  have e : (x.toNatClampNeg : Int) = x.toInt := Int.toNat_of_nonneg (Int.le_trans hl h.1)
  have h2 := h.2
  refine ⟨?_, e⟩
  rw [eq_i, i_nI (by omega)]
  exact e.symm
theorem GG_ck {s : Nat → Int32} (h : GG s) {k j n : Nat} (hk : k < 6) (hj : j < 3) (hn : n ≤ (if j = 0 then 5 else if j = 1 then 59 else 9)) : GG (upd s (10 + 3 * k + j) (nI n)) :=
  ⟨Gd_ck h.1 hk hj hn, by rw [sN_congr (s := s) (pk_un (by omega))]; exact h.2⟩
theorem GG_u {s : Nat → Int32} (h : GG s) {i : Nat} {v : Int32} (hi : i = 0 ∨ i = 6 ∨ i = 7 ∨ i = 9) (h0 : Nb (upd s i v) 0 6) (h6 : Nb (upd s i v) 6 100) (h7 : Nb (upd s i v) 7 100) : GG (upd s i v) := by
  obtain ⟨⟨-, h1, h2, -, -, h8, hC, hN, hX⟩, h99⟩ := h
  have o : ∀ j, j ≠ i → upd s i v j = s j := fun j hj => pk_un hj
  have hx := upd_X s (i := i) (by omega) (by omega) v
  refine ⟨⟨h0, Nb_congr (o _ (by omega)) h1, Nb_congr (o _ (by omega)) h2, h6, h7, Nb_congr (o _ (by omega)) h8, fun k hk => ⟨Nb_congr (o _ (by omega)) (hC k hk).1, Nb_congr (o _ (by omega)) (hC k hk).2.1, Nb_congr (o _ (by omega)) (hC k hk).2.2⟩, fun j hj => Nb_congr (o _ (by omega)) (hN j hj), hx.okAll hX⟩, by rw [sN_congr (s := s) (o 2 (by omega))]; exact h99⟩
theorem GG_9 {s : Nat → Int32} (h : GG s) (v : Int32) : GG (upd s 9 v) :=
  GG_u h (by decide) (Nb_congr (pk_un (by decide)) h.1.1) (Nb_congr (pk_un (by decide)) h.1.2.2.2.1) (Nb_congr (pk_un (by decide)) h.1.2.2.2.2.1)
theorem GG_0 {s : Nat → Int32} (h : GG s) {n : Nat} (hn : n ≤ 6) : GG (upd s 0 (nI n)) :=
  GG_u h (by decide) (Nb.of pk_us hn (by decide)) (Nb_congr (pk_un (by decide)) h.1.2.2.2.1) (Nb_congr (pk_un (by decide)) h.1.2.2.2.2.1)
theorem GG_comes {s : Nat → Int32} (h : GG s) {n kd o tn : Nat} (hn : n < 6) (h1 : kd ≤ 5) (h2 : o ≤ 59) (h3 : tn ≤ 9) : GG (comesF s n (nI kd) (nI o) (nI tn)) :=
  GG_ck (GG_ck (GG_ck (GG_0 h (show n + 1 ≤ 6 by omega)) hn (j := 0) (by decide) h1) hn (j := 1) (by decide) h2) hn (j := 2) (by decide) h3
theorem GG_clock {s : Nat → Int32} (h : GG s) (kd o tn : Int32) : GG (F_clock s kd o tn).2 := by
  unfold F_clock
  by_cases c : inR kd 0 5 ∧ inR o 0 59 ∧ inR tn 0 9
  · rw [if_pos c]
    by_cases c6 : sN s 0 = 6
    · rw [if_pos c6]; exact h
    · rw [if_neg c6]
      have h6 := h.1.1.2
      obtain ⟨a1, a2⟩ := in_n c.1 (by decide) (by decide)
      obtain ⟨b1, b2⟩ := in_n c.2.1 (by decide) (by decide)
      obtain ⟨d1, d2⟩ := in_n c.2.2 (by decide) (by decide)
      have a3 := c.1.2
      have b3 := c.2.1.2
      have d3 := c.2.2.2
      rw [a1, b1, d1]
      exact GG_comes h (by omega) (by omega) (by omega) (by omega)
  · rw [if_neg c]; exact h
theorem GG_turns {s : Nat → Int32} (h : GG s) (c x : Int32) : GG (F_turns s c x).2 := by
  unfold F_turns
  by_cases e : isC s c ∧ inR x 0 5
  · rw [if_pos e]
    have h6 := h.1.1.2
    obtain ⟨a1, a2⟩ := in_n (x := c) (lo := 0) (hi := 5) ⟨e.1.1, by have := e.1.2; omega⟩ (by decide) (by decide)
    obtain ⟨b1, b2⟩ := in_n e.2 (by decide) (by decide)
    have a3 := e.1.2
    have b3 := e.2.2
    show GG (upd s (10 + 3 * c.toNatClampNeg + 0) x)
    rw [b1]
    exact GG_ck h (by omega) (by decide) (show x.toNatClampNeg ≤ 5 by omega)
  · rw [if_neg e]; exact h
theorem GG_set {s : Nat → Int32} (h : GG s) (c x v : Int32) : GG (F_set s c x v).2 := by
  unfold F_set
  by_cases e : isC s c ∧ inR x 1 2 ∧ inR v 0 (if x.toInt = 1 then 59 else 9)
  · rw [if_pos e]
    have h6 := h.1.1.2
    obtain ⟨a1, a2⟩ := in_n (x := c) (lo := 0) (hi := 5) ⟨e.1.1, by have := e.1.2; omega⟩ (by decide) (by decide)
    obtain ⟨b1, b2⟩ := in_n e.2.1 (by decide) (by decide)
    obtain ⟨d1, d2⟩ := in_n e.2.2 (by decide) (by split <;> decide)
    have a3 := e.1.2
    have b3 := e.2.1
    have d3 := e.2.2.2
    show GG (upd s (10 + 3 * c.toNatClampNeg + x.toNatClampNeg) v)
    rw [d1]
    refine GG_ck h (by omega) (by omega) ?_
    rw [if_neg (by omega)]
    by_cases e1 : x.toInt = 1
    · rw [if_pos e1] at d3
      rw [if_pos (by omega)]
      omega
    · rw [if_neg e1] at d3
      rw [if_neg (by omega)]
      omega
  · rw [if_neg e]; exact h
theorem GG_ear {s : Nat → Int32} (h : GG s) (x v : Int32) : GG (F_ear s x v).2 := by
  unfold F_ear
  by_cases e : inR x 0 1 ∧ inR v 0 100
  · rw [if_pos e]
    obtain ⟨b1, b2⟩ := in_n e.1 (by decide) (by decide)
    obtain ⟨d1, d2⟩ := in_n e.2 (by decide) (by decide)
    have b3 := e.1
    have d3 := e.2.2
    show GG (upd s (6 + x.toNatClampNeg) v)
    have hx : x.toNatClampNeg = 0 ∨ x.toNatClampNeg = 1 := by omega
    rw [d1]
    rcases hx with e0 | e0
    · rw [e0]
      exact GG_u h (by decide) (Nb_congr (pk_un (by decide)) h.1.1) (Nb.of pk_us (by omega) (by decide)) (Nb_congr (pk_un (by decide)) h.1.2.2.2.2.1)
    · rw [e0]
      exact GG_u h (by decide) (Nb_congr (pk_un (by decide)) h.1.1) (Nb_congr (pk_un (by decide)) h.1.2.2.2.1) (Nb.of pk_us (by omega) (by decide))
  · rw [if_neg e]; exact h
theorem GG_minutes {s : Nat → Int32} (h : GG s) (n : Int32) : GG (F_minutes s n).2 := by
  unfold F_minutes
  by_cases e : inR n 1 100
  · rw [if_pos e]
    have h2 := h.2
    obtain ⟨a1, a2⟩ := Gd_goM h.1 (min n.toNatClampNeg (9999 - sN s 2)) (by omega)
    exact ⟨a1, by rw [a2]; omega⟩
  · rw [if_neg e]; exact h
theorem wi_n (v : Int32) : ∃ n, n ≤ 59 ∧ wiI v = nI n := by
  unfold wiI
  by_cases h1 : v.toInt < 0
  · rw [if_pos h1]; exact ⟨0, by decide, rfl⟩
  · rw [if_neg h1]
    by_cases h2 : 59 < v.toInt
    · rw [if_pos h2]; exact ⟨59, by decide, rfl⟩
    · rw [if_neg h2]
      obtain ⟨a1, a2⟩ := in_n (x := v) (lo := 0) (hi := 59) ⟨by omega, by omega⟩ (by decide) (by decide)
      exact ⟨v.toNatClampNeg, by omega, a1⟩
theorem GG_prS {s : Nat → Int32} (h : GG s) (tn : Nat → Int32) (q : Nat) : ∀ k, k ≤ 6 → GG (prS tn q s k).1
  | 0, _ => h
  | k + 1, hk => by
    have ih := GG_prS h tn q k (by omega)
    have c1 := (ih.1.2.2.2.2.2.2.1 k (by omega)).2.1
    have e : ∃ n, n ≤ 59 ∧ (if tn (24 * q + k) = -1000000005 then (prS tn q s k).1 (10 + 3 * k + 1) else wiI (tn (24 * q + k))) = nI n := by
      by_cases e1 : tn (24 * q + k) = -1000000005
      · rw [if_pos e1]; exact ⟨_, c1.2, c1.1⟩
      · rw [if_neg e1]; exact wi_n _
    obtain ⟨n, hn, en⟩ := e
    show GG (upd (prS tn q s k).1 (10 + 3 * k + 1) (if tn (24 * q + k) = -1000000005 then (prS tn q s k).1 (10 + 3 * k + 1) else wiI (tn (24 * q + k))))
    rw [en]
    exact GG_ck ih (by omega) (j := 1) (by decide) hn
theorem GG_pour {s : Nat → Int32} (h : GG s) (R : Sh) (k : Int32) : GG (F_pour R s k).2 := by
  unfold F_pour
  by_cases c1 : ¬ isS k
  · rw [if_pos c1]; exact h
  · rw [if_neg c1]
    by_cases c2 : (R.1 k.toNatClampNeg).toInt < 0
    · rw [if_pos c2]; exact h
    · rw [if_neg c2]
      have h6 := h.1.1.2
      exact GG_prS h _ _ _ (by omega)
theorem Gd_same {s s' : Nat → Int32} (h : GG s) (hX : SameX s s') (e : ∀ j, j < 40 → s' j = s j) : GG s' := by
  obtain ⟨⟨h0, h1, h2, h6, h7, h8, hC, hN, hT⟩, h99⟩ := h
  exact ⟨⟨Nb_congr (e _ (by decide)) h0, Nb_congr (e _ (by decide)) h1, Nb_congr (e _ (by decide)) h2, Nb_congr (e _ (by decide)) h6, Nb_congr (e _ (by decide)) h7, Nb_congr (e _ (by decide)) h8, fun k hk => ⟨Nb_congr (e _ (by omega)) (hC k hk).1, Nb_congr (e _ (by omega)) (hC k hk).2.1, Nb_congr (e _ (by omega)) (hC k hk).2.2⟩, fun j hj => Nb_congr (e _ (by omega)) (hN j hj), hX.okAll hT⟩, by rw [sN_congr (s := s) (e 2 (by decide))]; exact h99⟩
theorem dpG_d {r r' : Nat → Int32} {a0 : Nat} (h : ∀ j, a0 ≤ j → r' j = r j) : ∀ k, dpG r' a0 k = dpG r a0 k
  | 0 => rfl
  | k + 1 => by
    simp only [dpG]
    rw [dpG_d h k, h (a0 + 2 * k) (by omega), h (a0 + 2 * k + 1) (by omega)]
theorem GG_text {s : Nat → Int32} (h : GG s) (T : Nat → Int32) (n : Nat) (hn : n ≤ 96) (nu le : Int32) : GG (S_text T n nu le s) := by
  have h14 := h.1.2.1.2
  obtain ⟨pX, p40⟩ := pr_X (T := T) (n := n) (nu := nu) (le := le) (s := s) hn h14
  unfold S_text
  by_cases c : (prF T n nu le s).1 = true ∧ ¬ sN s 1 = 14
  · rw [if_pos c]
    obtain ⟨key, hk2, hky, -, hPI, hWk, hTk⟩ := pr_ok (T := T) (nu := nu) (le := le) (s := s) hn c.1
    have hm := pr_m hPI hWk hTk
    have hk14 : sN s 1 < 14 := by have := c.2; omega
    have ea : at0F s = 40 + 200 * sN s 1 + 4 := by rw [at0F, if_pos hk14]
    have hlow := fun j hj => pr_fr (T := T) (nu := nu) (le := le) (s := s) hn j (Or.inl hj)
    rw [ea] at hWk hlow
    obtain ⟨t1, t2, t3, t4, t5, t6, t7, t8⟩ := tx_facts (q := (prF T n nu le s).2) (s := s) (ky := kyF T n nu le) (k := sN s 1) rfl hm (fun j hj => hlow j (by omega))
    obtain ⟨-, -, -, w4, w5⟩ := hWk
    generalize txR (prF T n nu le s).2 (kyF T n nu le) (sN s 1) = s' at *
    generalize (prF T n nu le s).2 = q at *
    obtain ⟨⟨h0, h1, h2, h6, h7, h8, hC, hN, hX⟩, h99⟩ := h
    have eN : sN s' 1 = sN s 1 + 1 := sN_of t2 (by omega)
    have eK : sN s' (40 + 200 * sN s 1) = key := sN_of (t4.trans hky) (by omega)
    have hD : ∀ j, dpF s' (sN s 1) j = dpG q.2.2.2.2.2 (40 + 200 * sN s 1 + 4) j := fun j => by
      rw [dpG_F, dpG_d t8]
    refine ⟨⟨Nb_congr (t1 _ (by decide) (by decide)) h0, Nb.of t2 (by omega) (by decide), Nb_congr (t1 _ (by decide) (by decide)) h2, Nb_congr (t1 _ (by decide) (by decide)) h6, Nb_congr (t1 _ (by decide) (by decide)) h7, Nb_congr (t1 _ (by decide) (by decide)) h8, fun k hk => ⟨Nb_congr (t1 _ (by omega) (by omega)) (hC k hk).1, Nb_congr (t1 _ (by omega) (by omega)) (hC k hk).2.1, Nb_congr (t1 _ (by omega) (by omega)) (hC k hk).2.2⟩, fun j hj => Nb_congr (t1 _ (by omega) (by omega)) (hN j hj), fun t ht => ?_⟩, by rw [sN_congr (s := s) (t1 2 (by decide) (by decide))]; exact h99⟩
    rw [eN] at ht
    by_cases e : t = sN s 1
    · subst e
      refine ⟨Nb.of (t4.trans hky) hk2 (by decide), Nb.of t6 hm (by decide), fun k hk => ?_, ?_⟩
      · rw [t7] at hk
        rw [eK, hD, t8 _ (by omega), t8 _ (by omega)]
        exact w4 k (Nat.zero_le _) hk
      · rw [t7, hD]
        have w6 : (dpG q.2.2.2.2.2 (40 + 200 * sN s 1 + 4) q.2.2.2.1 : Int) = 0 + 1 := w5
        omega
    · exact (t3 t (by omega)).ok (hX t (by omega))
  · rw [if_neg c]
    exact Gd_same h pX p40
theorem dv_n (z : Int32) : ∃ m, m < 2 ^ 24 ∧ drawV z = nI m := by
  refine ⟨((drawZ z).toUInt32 >>> ((8 : Int32).toUInt32 &&& Int32.toUInt32 31)).toNat, ?_, ?_⟩
  · have e : ((8 : Int32).toUInt32 &&& Int32.toUInt32 31) = 8 := by decide
    rw [e, UInt32.toNat_shiftRight]
    have h1 := (drawZ z).toUInt32.toNat_lt
    have e8 : (8 : UInt32).toNat % 32 = 8 := by decide
    rw [e8, Nat.shiftRight_eq_div_pow]
    omega
  · unfold drawV
    apply Int32.toBitVec_inj.mp
    apply BitVec.eq_of_toNat_eq
    show _ = (BitVec.ofNat 32 _).toNat
    rw [BitVec.toNat_ofNat]
    exact (Nat.mod_eq_of_lt (UInt32.toNat_lt _)).symm
theorem rm_6 (z : Int32) : ∃ n, n ≤ 5 ∧ rmI (drawV z) 6 = nI n := by
  obtain ⟨m, hm, e⟩ := dv_n z
  refine ⟨m % 6, by omega, ?_⟩
  rw [e, rmI, jlit 6]
  exact pk_rem (by omega) (by decide) (by decide)
theorem rm_10 (z : Int32) : ∃ n, n ≤ 9 ∧ rmI (drawV z) 10 = nI n := by
  obtain ⟨m, hm, e⟩ := dv_n z
  refine ⟨m % 10, by omega, ?_⟩
  rw [e, rmI, jlit 10]
  exact pk_rem (by omega) (by decide) (by decide)
theorem GG_dl1 {s : Nat → Int32} (h : GG s) (h6 : sN s 0 < 6) : GG (dl1 s) := by
  obtain ⟨a, ha, ea⟩ := rm_6 (s 9)
  obtain ⟨b, hb, eb⟩ := rm_10 (drawZ (s 9))
  obtain ⟨c, hc, ec⟩ := rm_10 (drawZ (drawZ (s 9)))
  unfold dl1
  rw [ea, eb, ec]
  exact GG_comes (GG_9 (GG_9 (GG_9 h _) _) _) h6 ha (by omega) hc
theorem GG_dlR {s : Nat → Int32} (h : GG s) : ∀ n, sN s 0 + n ≤ 6 → GG (dlR s n)
  | 0, _ => h
  | n + 1, hn => by
    have ih := GG_dlR h n (by omega)
    have e := sN_of (dlR_0 h.1.1.1 n (by omega)) (by omega)
    exact GG_dl1 ih (by rw [e]; omega)
theorem GG_deal {s : Nat → Int32} (h : GG s) (n : Int32) : GG (F_deal s n).2 := by
  unfold F_deal
  by_cases e : inR n 1 6
  · rw [if_pos e]
    have h6 := h.1.1.2
    exact GG_dlR h _ (by omega)
  · rw [if_neg e]; exact h
