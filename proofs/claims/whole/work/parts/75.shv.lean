-- what sheets hold, kept
theorem s16_in (v : Int32) : -100000 ≤ ((v <<< ((16 : Int32) &&& 31)) >>> ((16 : Int32) &&& 31)).toInt ∧ ((v <<< ((16 : Int32) &&& 31)) >>> ((16 : Int32) &&& 31)).toInt ≤ 100000 := by
  rw [sh16, Int16.toInt_toInt32]
  have h1 := Int16.le_toInt v.toInt16
  have h2 := Int16.toInt_lt v.toInt16
  omega
theorem isS_n {k : Int32} (h : isS k) : k.toNatClampNeg < 4 ∧ k = nI k.toNatClampNeg := by
  obtain ⟨e1, e2⟩ := in_n (x := k) (lo := 0) (hi := 3) ⟨h.1, by omega⟩ (by decide) (by decide)
  exact ⟨by omega, e1⟩
theorem clr_at {f : Nat → Int32} {q j : Nat} (P : Int32 → Prop) (h0 : P 0) (h1 : P (f j)) : P (clrR f q j) := by
  unfold clrR
  split
  · exact h0
  · exact h1
theorem sheet_ok {R : Sh} (hO : ShOk R) (hV : ShV R) (k so n : Int32) : ShOk (F_sheet R k so n).2 ∧ ShV (F_sheet R k so n).2 := by
  unfold F_sheet
  by_cases c1 : isS k ∧ inR so (-1) 1 ∧ ¬ (0 ≤ so.toInt ∧ 24 < n.toInt)
  · rw [if_pos c1]
    by_cases c2 : 0 ≤ so.toInt ∧ n.toInt < 0
    · rw [if_pos c2]
      exact ⟨hO, hV⟩
    · rw [if_neg c2]
      refine ⟨fun q hq => ?_, fun q hq j hj => clr_at (fun z => z = -1000000005 ∨ (-100000 ≤ z.toInt ∧ z.toInt ≤ 100000)) (Or.inr ⟨by decide, by decide⟩) (hV q hq j hj)⟩
      show (upd R.1 k.toNatClampNeg so q = -1 ∨ upd R.1 k.toNatClampNeg so q = 0 ∨ upd R.1 k.toNatClampNeg so q = 1) ∧ ∃ m, m ≤ 24 ∧ upd R.2.1 k.toNatClampNeg (if so.toInt < 0 then 0 else n) q = nI m
      by_cases e : q = k.toNatClampNeg
      · rw [e, pk_us, pk_us]
        have hso : so.toInt = -1 ∨ so.toInt = 0 ∨ so.toInt = 1 := by have := c1.2.1; omega
        refine ⟨?_, ?_⟩
        · rcases hso with z | z | z
          · exact Or.inl (Int32.toInt_inj.mp (by rw [z]; rfl))
          · exact Or.inr (Or.inl (Int32.toInt_inj.mp (by rw [z]; rfl)))
          · exact Or.inr (Or.inr (Int32.toInt_inj.mp (by rw [z]; rfl)))
        · by_cases c3 : so.toInt < 0
          · rw [if_pos c3]
            exact ⟨0, by omega, rfl⟩
          · rw [if_neg c3]
            obtain ⟨a1, a2⟩ := in_n (x := n) (lo := 0) (hi := 24) ⟨by omega, by have := c1.2.2; omega⟩ (by decide) (by decide)
            exact ⟨n.toNatClampNeg, by have := c1.2.2; omega, a1⟩
      · rw [pk_un e, pk_un e]
        exact hO q hq
  · rw [if_neg c1]
    exact ⟨hO, hV⟩
theorem mark_ok {R : Sh} (hO : ShOk R) (hV : ShV R) (k p v : Int32) : ShOk (F_mark R k p v).2 ∧ ShV (F_mark R k p v).2 := by
  unfold F_mark
  split
  · exact ⟨hO, hV⟩
  · rename_i c0
    split
    · exact ⟨hO, hV⟩
    · rename_i c1
      split
      · exact ⟨hO, hV⟩
      · split
        · exact ⟨hO, hV⟩
        · split
          · exact ⟨hO, hV⟩
          · rename_i c4
            obtain ⟨hk, -⟩ := isS_n (Decidable.not_not.mp c0)
            refine ⟨hO, fun q hq j hj => ?_⟩
            show upd R.2.2 (24 * k.toNatClampNeg + p.toNatClampNeg) _ (24 * q + j) = -1000000005 ∨ (-100000 ≤ (upd R.2.2 (24 * k.toNatClampNeg + p.toNatClampNeg) _ (24 * q + j)).toInt ∧ (upd R.2.2 (24 * k.toNatClampNeg + p.toNatClampNeg) _ (24 * q + j)).toInt ≤ 100000)
            by_cases e : 24 * q + j = 24 * k.toNatClampNeg + p.toNatClampNeg
            · rw [e, pk_us]
              by_cases c5 : (R.1 k.toNatClampNeg).toInt = 0
              · rw [if_pos c5]
                exact Or.inr (s16_in v)
              · rw [if_neg c5]
                have h1 : (R.1 k.toNatClampNeg).toInt = 1 := by
                  rcases (hO k.toNatClampNeg hk).1 with z | z | z
                  · rw [z] at c1
                    exact absurd (by decide) c1
                  · rw [z] at c5
                    exact absurd (by decide) c5
                  · rw [z]; decide
                by_cases c6 : v = -1000000005
                · exact Or.inl c6
                · have c7 : inR v (-99999) 99999 := Decidable.not_not.mp (fun z => c4 ⟨h1, c6, z⟩)
                  exact Or.inr ⟨by have := c7.1; omega, by have := c7.2; omega⟩
            · rw [pk_un e]
              exact hV q hq j hj
theorem copy_ok {R : Sh} (hO : ShOk R) (hV : ShV R) (a p b t m : Int32) : ShOk (F_copy R a p b t m).2 ∧ ShV (F_copy R a p b t m).2 := by
  unfold F_copy
  split
  · exact ⟨hO, hV⟩
  · rename_i c0
    split
    · exact ⟨hO, hV⟩
    · split
      · exact ⟨hO, hV⟩
      · split
        · exact ⟨hO, hV⟩
        · rename_i c3
          obtain ⟨ha, -⟩ := isS_n (Decidable.not_not.mp c0).1
          obtain ⟨hb, -⟩ := isS_n (Decidable.not_not.mp c0).2
          obtain ⟨-, na, hna, ea⟩ := hO a.toNatClampNeg ha
          obtain ⟨-, nb, hnb, eb⟩ := hO b.toNatClampNeg hb
          rw [ea, eb, nI_toInt (by omega), nI_toInt (by omega)] at c3
          obtain ⟨-, p2⟩ := in_n (x := p) (lo := 0) (hi := 24) ⟨by omega, by omega⟩ (by decide) (by decide)
          obtain ⟨-, t2⟩ := in_n (x := t) (lo := 0) (hi := 24) ⟨by omega, by omega⟩ (by decide) (by decide)
          obtain ⟨-, m2⟩ := in_n (x := m) (lo := 0) (hi := 24) ⟨by omega, by omega⟩ (by decide) (by decide)
          refine ⟨hO, fun q hq j hj => ?_⟩
          show va_cpy R.2.2 R.2.2 (24 * a.toNatClampNeg + p.toNatClampNeg) (24 * b.toNatClampNeg + t.toNatClampNeg) m.toNatClampNeg (24 * q + j) = -1000000005 ∨ (-100000 ≤ (va_cpy R.2.2 R.2.2 (24 * a.toNatClampNeg + p.toNatClampNeg) (24 * b.toNatClampNeg + t.toNatClampNeg) m.toNatClampNeg (24 * q + j)).toInt ∧ (va_cpy R.2.2 R.2.2 (24 * a.toNatClampNeg + p.toNatClampNeg) (24 * b.toNatClampNeg + t.toNatClampNeg) m.toNatClampNeg (24 * q + j)).toInt ≤ 100000)
          unfold va_cpy
          by_cases c : 24 * b.toNatClampNeg + t.toNatClampNeg ≤ 24 * q + j ∧ 24 * q + j < 24 * b.toNatClampNeg + t.toNatClampNeg + m.toNatClampNeg
          · rw [if_pos c]
            have e : 24 * a.toNatClampNeg + p.toNatClampNeg + (24 * q + j - (24 * b.toNatClampNeg + t.toNatClampNeg)) = 24 * a.toNatClampNeg + (p.toNatClampNeg + (24 * q + j - (24 * b.toNatClampNeg + t.toNatClampNeg))) := by omega
            rw [e]
            exact hV a.toNatClampNeg ha _ (by omega)
          · rw [if_neg c]
            exact hV q hq j hj
theorem lay_hz {L : Sl} {R : Sh} {s : Nat → Int32} (k th v : Int32) (hO : ShOk R) (hz : ∀ q, q < 5 → ∃ n, n ≤ 24 ∧ L.2.2.2.1 q = nI n) : ∀ q, q < 5 → ∃ n, n ≤ 24 ∧ (F_lay L R s k th v).2.2.2.2.1 q = nI n := by
  by_cases c : okLay s k th v
  · refine hz_lay k th v hz (fun e => ?_)
    have hv : isS v := by
      rcases c.2 with z | z | z | z
      · omega
      · omega
      · omega
      · exact z.2
    exact (hO _ (isS_n hv).1).2
  · intro q hq
    unfold F_lay
    rw [if_pos c]
    exact hz q hq
theorem NR.n0 {w : Wd} {a : Nat} {s : Nat → Int32} (h : NR w a s) : wI w a 1 = s 0 := h.1.1
