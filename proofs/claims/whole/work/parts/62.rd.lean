-- the class's reader: signs, words, steps, numbers, names
theorem kmC_3 {x : Int32} : kmC x = 3 ↔ x = 3 := by
  unfold kmC
  by_cases h1 : x = 1
  · rw [if_pos h1, h1]; decide
  · rw [if_neg h1]
    by_cases h2 : x = 2
    · rw [if_pos h2, h2]; decide
    · rw [if_neg h2]
theorem kmC_2 {x : Int32} : kmC x = 2 ↔ x = 1 := by
  unfold kmC
  by_cases h1 : x = 1
  · rw [if_pos h1, h1]; decide
  · rw [if_neg h1]
    by_cases h2 : x = 2
    · rw [if_pos h2, h2]; decide
    · rw [if_neg h2]
      exact ⟨fun h => absurd h h2, fun h => absurd h h1⟩
theorem kmC_1 {x : Int32} : kmC x = 1 ↔ x = 2 := by
  unfold kmC
  by_cases h1 : x = 1
  · rw [if_pos h1, h1]; decide
  · rw [if_neg h1]
    by_cases h2 : x = 2
    · rw [if_pos h2, h2]; decide
    · rw [if_neg h2]
      exact ⟨fun h => absurd h h1, fun h => absurd h h2⟩
theorem kmC_0 {x : Int32} : kmC x = 0 ↔ x = 0 := by
  unfold kmC
  by_cases h1 : x = 1
  · rw [if_pos h1, h1]; decide
  · rw [if_neg h1]
    by_cases h2 : x = 2
    · rw [if_pos h2, h2]; decide
    · rw [if_neg h2]
theorem c_rSign (g : Cx) (w : Wd) (hw : Wf w) (T : Nat → Int32) (n : Nat) (hn : n ≤ 96) (hTB : TpB T n) (k : Tok) (hT : CsT w T n k) (hI : TkI T n k) (b : Nat) (hb : b < 128) : CI g yX6_isSign cX6_isSign 2 (some .boolean) 1 0 0 [.ref (gb g + 43), .int (nI b)] w (fun r w' => r = jb (k.2.2.1 = 3 ∧ k.2.2.2.2 = nI b) ∧ w = w') := by
  obtain ⟨⟨hB0, hB1, hB2⟩, t2, t3, t4⟩ := hT
  refine CI.of (own := RX6) (nm := "isSign") (lv := [some (.ref (gb g + 43)), some (.int (nI b))]) (by decide) rfl rfl (Nat.le_of_ble_eq_true rfl) rfl (fun Q hQ => ?_)
  by_cases h3 : k.2.2.1 = 3
  · have hlt := hI.2.2.1 (by rw [h3]; decide)
    have hle := hI.1
    have hlet := hI.2.2.2.1 h3
    have hiff := sx_eq (hTB k.1 (by omega)) hb
    by_cases hc : k.2.2.2.2 = nI b
    · refine jr_aload_n dX6_isSign_0 rfl ?_
      refine gfX6_19 dX6_isSign_1 (hw.k rfl) ?_
      rw [t2]
      refine jr_iconst (3) dX6_isSign_4 (by decide) ?_
      refine jr_icmp_ne 25 dX6_isSign_5 (by decide) (fun c_5 => absurd (kmC_3.mpr h3) c_5) (fun c_5 => ?_)
      refine jr_aload_n dX6_isSign_8 rfl ?_
      refine gfX6_9 46 dX6_isSign_9 (hw.k rfl) (by exact hB0) ?_
      refine jr_aload_n dX6_isSign_12 rfl ?_
      refine gfX6_22 dX6_isSign_13 (hw.k rfl) ?_
      rw [t3]
      refine jr_bald k.1 (hw.k rfl) rfl ⟨by omega, by decide⟩ dX6_isSign_16 ?_
      rw [hB2 _ (by omega)]
      refine jr_iload_n dX6_isSign_17 rfl ?_
      refine jr_icmp_ne 25 dX6_isSign_18 (by decide) (fun c_18 => absurd (hiff.mpr (by rw [← hlet]; exact hc)) c_18) (fun c_18 => ?_)
      refine jr_iconst (1) dX6_isSign_21 (by decide) ?_
      refine jr_goto 26 dX6_isSign_22 (by decide) ?_
      refine jr_zret rfl (by decide) dX6_isSign_26 ?_
      exact hQ _ _ ⟨jb_t' ⟨h3, hc⟩, rfl⟩
    · refine jr_aload_n dX6_isSign_0 rfl ?_
      refine gfX6_19 dX6_isSign_1 (hw.k rfl) ?_
      rw [t2]
      refine jr_iconst (3) dX6_isSign_4 (by decide) ?_
      refine jr_icmp_ne 25 dX6_isSign_5 (by decide) (fun c_5 => absurd (kmC_3.mpr h3) c_5) (fun c_5 => ?_)
      refine jr_aload_n dX6_isSign_8 rfl ?_
      refine gfX6_9 46 dX6_isSign_9 (hw.k rfl) (by exact hB0) ?_
      refine jr_aload_n dX6_isSign_12 rfl ?_
      refine gfX6_22 dX6_isSign_13 (hw.k rfl) ?_
      rw [t3]
      refine jr_bald k.1 (hw.k rfl) rfl ⟨by omega, by decide⟩ dX6_isSign_16 ?_
      rw [hB2 _ (by omega)]
      refine jr_iload_n dX6_isSign_17 rfl ?_
      refine jr_icmp_ne 25 dX6_isSign_18 (by decide) (fun c_18 => ?_) (fun c_18 => absurd c_18 (fun h => hc (by rw [hlet]; exact hiff.mp h)))
      refine jr_iconst (0) dX6_isSign_25 (by decide) ?_
      refine jr_zret rfl (by decide) dX6_isSign_26 ?_
      exact hQ _ _ ⟨jb_f' (fun h => hc h.2), rfl⟩
  · refine jr_aload_n dX6_isSign_0 rfl ?_
    refine gfX6_19 dX6_isSign_1 (hw.k rfl) ?_
    rw [t2]
    refine jr_iconst (3) dX6_isSign_4 (by decide) ?_
    refine jr_icmp_ne 25 dX6_isSign_5 (by decide) (fun c_5 => ?_) (fun c_5 => absurd c_5 (fun h => h3 (kmC_3.mp h)))
    refine jr_iconst (0) dX6_isSign_25 (by decide) ?_
    refine jr_zret rfl (by decide) dX6_isSign_26 ?_
    exact hQ _ _ ⟨jb_f' (fun h => h3 h.1), rfl⟩
theorem schr_n : ∀ i, i < 9 → ∀ j, j < 5 → schr i j = nI (schr i j).toNatClampNeg ∧ (schr i j).toNatClampNeg < 128 := by decide +kernel
def saL (i : Nat) (k : Tok) : Nat → Nat → Int32
  | 0, _ => 0
  | f + 1, j => if k.2.2.1 = 3 ∧ k.2.2.2.2 = schr i j then schr i j else saL i k f (j + 1)
theorem c_among (g : Cx) (w : Wd) (hw : Wf w) (T : Nat → Int32) (n : Nat) (hn : n ≤ 96) (hTB : TpB T n) (k : Tok) (hT : CsT w T n k) (hI : TkI T n k) (i : Nat) (hi : i < 9) : CI g yX6_signAmong cX6_signAmong 3 (some .int) 6 0 0 [.ref (gb g + 43), .ref (gx g (1 + i))] w (fun r w' => r = saL i k (slen i) 0 ∧ w = w') := by
  have hl := slen_le i hi
  refine CI.of (own := RX6) (nm := "signAmong") (lv := [some (.ref (gb g + 43)), some (.ref (gx g (1 + i))), none]) (by decide) rfl rfl (Nat.le_of_ble_eq_true rfl) rfl (fun Q hQ => ?_)
  have L : ∀ f j, f + j = slen i → saL i k (slen i) 0 = saL i k f j → RR g RX6 cX6_signAmong 3 (some .int) "signAmong" 6 0 0 0 0 2 [some (.ref (gb g + 43)), some (.ref (gx g (1 + i))), some (.int (nI j))] [] w Q := by
    intro f
    induction f with
    | zero =>
      intro j hj he
      have e : j = slen i := by omega
      subst e
      refine jr_iload_n dX6_signAmong_2 rfl ?_
      refine jr_aload_n dX6_signAmong_3 rfl ?_
      refine jc_Xi (c_slen g _ i hi) hi lkX6_76 rfl rfl (Nat.le_of_ble_eq_true rfl) (Nat.le_of_ble_eq_true rfl) dX6_signAmong_4 (fun r_4 w_4 h_4 => ?_)
      obtain ⟨rfl, rfl⟩ := h_4
      refine jr_icmp_ge 34 dX6_signAmong_7 (by decide) (fun c_7 => ?_) (fun c_7 => absurd (Int32.le_refl _) c_7)
      refine jr_iconst (0) dX6_signAmong_34 (by decide) ?_
      refine jr_iret rfl dX6_signAmong_35 ?_
      exact hQ _ _ ⟨he.symm, rfl⟩
    | succ f ih =>
      intro j hj he
      obtain ⟨e1, e2⟩ := schr_n i hi j (by omega)
      have hS := c_rSign g w hw T n hn hTB k hT hI _ e2
      rw [← e1] at hS
      simp only [saL] at he
      by_cases hc : k.2.2.1 = 3 ∧ k.2.2.2.2 = schr i j
      · rw [if_pos hc] at he
        refine jr_iload_n dX6_signAmong_2 rfl ?_
        refine jr_aload_n dX6_signAmong_3 rfl ?_
        refine jc_Xi (c_slen g _ i hi) hi lkX6_76 rfl rfl (Nat.le_of_ble_eq_true rfl) (Nat.le_of_ble_eq_true rfl) dX6_signAmong_4 (fun r_4 w_4 h_4 => ?_)
        obtain ⟨rfl, rfl⟩ := h_4
        refine jr_icmp_ge 34 dX6_signAmong_7 (by decide) (fun c_7 => absurd c_7 (nI_ge (by omega) (by omega))) (fun c_7 => ?_)
        refine jr_aload_n dX6_signAmong_10 rfl ?_
        refine jr_aload_n dX6_signAmong_11 rfl ?_
        refine jr_iload_n dX6_signAmong_12 rfl ?_
        refine jc_Xi (c_schar g _ i j hi (by omega)) hi lkX6_81 rfl rfl (Nat.le_of_ble_eq_true rfl) (Nat.le_of_ble_eq_true rfl) dX6_signAmong_13 (fun r_13 w_13 h_13 => ?_)
        obtain ⟨rfl, rfl⟩ := h_13
        refine jc_Vi (hS) lkX6_85 (hw.k rfl) rfl rfl (Nat.le_of_ble_eq_true rfl) (Nat.le_of_ble_eq_true rfl) dX6_signAmong_16 (fun r_16 w_16 h_16 => ?_)
        obtain ⟨rfl, rfl⟩ := h_16
        refine jr_if_eq 28 dX6_signAmong_19 (by decide) (fun c_19 => absurd c_19 (jb_1.mpr hc)) (fun c_19 => ?_)
        refine jr_aload_n dX6_signAmong_22 rfl ?_
        refine jr_iload_n dX6_signAmong_23 rfl ?_
        refine jc_Xi (c_schar g _ i j hi (by omega)) hi lkX6_81 rfl rfl (Nat.le_of_ble_eq_true rfl) (Nat.le_of_ble_eq_true rfl) dX6_signAmong_24 (fun r_24 w_24 h_24 => ?_)
        obtain ⟨rfl, rfl⟩ := h_24
        refine jr_iret rfl dX6_signAmong_27 ?_
        exact hQ _ _ ⟨he.symm, rfl⟩
      · rw [if_neg hc] at he
        have h9 := ih (j + 1) (by omega) he
        refine jr_iload_n dX6_signAmong_2 rfl ?_
        refine jr_aload_n dX6_signAmong_3 rfl ?_
        refine jc_Xi (c_slen g _ i hi) hi lkX6_76 rfl rfl (Nat.le_of_ble_eq_true rfl) (Nat.le_of_ble_eq_true rfl) dX6_signAmong_4 (fun r_4 w_4 h_4 => ?_)
        obtain ⟨rfl, rfl⟩ := h_4
        refine jr_icmp_ge 34 dX6_signAmong_7 (by decide) (fun c_7 => absurd c_7 (nI_ge (by omega) (by omega))) (fun c_7 => ?_)
        refine jr_aload_n dX6_signAmong_10 rfl ?_
        refine jr_aload_n dX6_signAmong_11 rfl ?_
        refine jr_iload_n dX6_signAmong_12 rfl ?_
        refine jc_Xi (c_schar g _ i j hi (by omega)) hi lkX6_81 rfl rfl (Nat.le_of_ble_eq_true rfl) (Nat.le_of_ble_eq_true rfl) dX6_signAmong_13 (fun r_13 w_13 h_13 => ?_)
        obtain ⟨rfl, rfl⟩ := h_13
        refine jc_Vi (hS) lkX6_85 (hw.k rfl) rfl rfl (Nat.le_of_ble_eq_true rfl) (Nat.le_of_ble_eq_true rfl) dX6_signAmong_16 (fun r_16 w_16 h_16 => ?_)
        obtain ⟨rfl, rfl⟩ := h_16
        refine jr_if_eq 28 dX6_signAmong_19 (by decide) (fun c_19 => ?_) (fun c_19 => absurd (jb_f hc) c_19)
        refine jr_iinc_2 (nI (j + 1)) dX6_signAmong_28 (inc1 j) (by decide) rfl ?_
        refine jr_goto 2 dX6_signAmong_31 (by decide) ?_
        exact h9
  refine jr_iconst (0) dX6_signAmong_0 (by decide) ?_
  refine jr_istore_2 dX6_signAmong_1 (by decide) rfl ?_
  exact L _ 0 rfl rfl
/-- the signs of a level, as the class finds them -/
theorem sa_Te (p : PS) : saL 6 p.1 (slen 6) 0 = if opTe p = true then p.1.2.2.2.2 else 0 := by
  have e : saL 6 p.1 (slen 6) 0 = if p.1.2.2.1 = 3 ∧ p.1.2.2.2.2 = 42 then 42 else if p.1.2.2.1 = 3 ∧ p.1.2.2.2.2 = 47 then 47 else 0 := rfl
  rw [e]
  by_cases h1 : p.1.2.2.1 = 3 ∧ p.1.2.2.2.2 = 42
  · rw [if_pos h1, if_pos (show opTe p = true from decide_eq_true (Or.inl h1)), h1.2]
  · rw [if_neg h1]
    by_cases h2 : p.1.2.2.1 = 3 ∧ p.1.2.2.2.2 = 47
    · rw [if_pos h2, if_pos (show opTe p = true from decide_eq_true (Or.inr h2)), h2.2]
    · rw [if_neg h2, if_neg (fun h => (of_decide_eq_true h).elim h1 h2)]
theorem sa_Su (p : PS) : saL 7 p.1 (slen 7) 0 = if opSu p = true then p.1.2.2.2.2 else 0 := by
  have e : saL 7 p.1 (slen 7) 0 = if p.1.2.2.1 = 3 ∧ p.1.2.2.2.2 = 43 then 43 else if p.1.2.2.1 = 3 ∧ p.1.2.2.2.2 = 45 then 45 else 0 := rfl
  rw [e]
  by_cases h1 : p.1.2.2.1 = 3 ∧ p.1.2.2.2.2 = 43
  · rw [if_pos h1, if_pos (show opSu p = true from decide_eq_true (Or.inl h1)), h1.2]
  · rw [if_neg h1]
    by_cases h2 : p.1.2.2.1 = 3 ∧ p.1.2.2.2.2 = 45
    · rw [if_pos h2, if_pos (show opSu p = true from decide_eq_true (Or.inr h2)), h2.2]
    · rw [if_neg h2, if_neg (fun h => (of_decide_eq_true h).elim h1 h2)]
theorem sa_Cm (p : PS) : saL 8 p.1 (slen 8) 0 = if opCm p = true then p.1.2.2.2.2 else 0 := by
  have e : saL 8 p.1 (slen 8) 0 = if p.1.2.2.1 = 3 ∧ p.1.2.2.2.2 = 60 then 60 else if p.1.2.2.1 = 3 ∧ p.1.2.2.2.2 = 61 then 61 else if p.1.2.2.1 = 3 ∧ p.1.2.2.2.2 = 62 then 62 else 0 := rfl
  rw [e]
  by_cases h1 : p.1.2.2.1 = 3 ∧ p.1.2.2.2.2 = 60
  · rw [if_pos h1, if_pos (show opCm p = true from decide_eq_true (Or.inl h1)), h1.2]
  · rw [if_neg h1]
    by_cases h2 : p.1.2.2.1 = 3 ∧ p.1.2.2.2.2 = 61
    · rw [if_pos h2, if_pos (show opCm p = true from decide_eq_true (Or.inr (Or.inl h2))), h2.2]
    · rw [if_neg h2]
      by_cases h3 : p.1.2.2.1 = 3 ∧ p.1.2.2.2.2 = 62
      · rw [if_pos h3, if_pos (show opCm p = true from decide_eq_true (Or.inr (Or.inr h3))), h3.2]
      · rw [if_neg h3, if_neg (fun h => (of_decide_eq_true h).elim h1 (fun h => h.elim h2 h3))]
def isWd (T : Nat → Int32) (k : Tok) (i : Nat) : Prop := k.2.2.1 = 1 ∧ k.2.1 - k.1 = slen i ∧ ∀ j, j < slen i → T (k.1 + j) = schr i j
theorem c_isWord (g : Cx) (w : Wd) (hw : Wf w) (T : Nat → Int32) (n : Nat) (hn : n ≤ 96) (hTB : TpB T n) (k : Tok) (hT : CsT w T n k) (hI : TkI T n k) (i : Nat) (hi : i < 9) : CI g yX6_isWord cX6_isWord 3 (some .boolean) 6 0 0 [.ref (gb g + 43), .ref (gx g (1 + i))] w (fun r w' => ((isWd T k i ∧ r = 1) ∨ (¬ isWd T k i ∧ r = 0)) ∧ w = w') := by
  have hl := slen_le i hi
  obtain ⟨⟨hB0, hB1, hB2⟩, t2, t3, t4⟩ := id hT
  have hle := hI.1
  have hbe := hI.2.1
  refine CI.of (own := RX6) (nm := "isWord") (lv := [some (.ref (gb g + 43)), some (.ref (gx g (1 + i))), none]) (by decide) rfl rfl (Nat.le_of_ble_eq_true rfl) rfl (fun Q hQ => ?_)
  have L : k.2.2.1 = 1 → k.2.1 - k.1 = slen i → ∀ f j, f + j = slen i → (∀ q, q < j → T (k.1 + q) = schr i q) → RR g RX6 cX6_isWord 3 (some .boolean) "isWord" 6 0 0 0 0 28 [some (.ref (gb g + 43)), some (.ref (gx g (1 + i))), some (.int (nI j))] [] w Q := by
    intro h1 h2 f
    induction f with
    | zero =>
      intro j hj he
      have e : j = slen i := by omega
      subst e
      refine jr_iload_n dX6_isWord_28 rfl ?_
      refine jr_aload_n dX6_isWord_29 rfl ?_
      refine jc_Xi (c_slen g _ i hi) hi lkX6_76 rfl rfl (Nat.le_of_ble_eq_true rfl) (Nat.le_of_ble_eq_true rfl) dX6_isWord_30 (fun r_30 w_30 h_30 => ?_)
      obtain ⟨rfl, rfl⟩ := h_30
      refine jr_icmp_ge 63 dX6_isWord_33 (by decide) (fun c_33 => ?_) (fun c_33 => absurd (Int32.le_refl _) c_33)
      refine jr_iconst (1) dX6_isWord_63 (by decide) ?_
      refine jr_zret rfl (by decide) dX6_isWord_64 ?_
      exact hQ _ _ ⟨Or.inl ⟨⟨h1, h2, he⟩, rfl⟩, rfl⟩
    | succ f ih =>
      intro j hj he
      obtain ⟨e1, e2⟩ := schr_n i hi j (by omega)
      have hiff := sx_eq (hTB (k.1 + j) (by omega)) e2
      rw [← e1] at hiff
      by_cases hc : T (k.1 + j) = schr i j
      · have h9 := ih (j + 1) (by omega) (fun q hq => by
          by_cases e : q = j
          · rw [e]; exact hc
          · exact he q (by omega))
        refine jr_iload_n dX6_isWord_28 rfl ?_
        refine jr_aload_n dX6_isWord_29 rfl ?_
        refine jc_Xi (c_slen g _ i hi) hi lkX6_76 rfl rfl (Nat.le_of_ble_eq_true rfl) (Nat.le_of_ble_eq_true rfl) dX6_isWord_30 (fun r_30 w_30 h_30 => ?_)
        obtain ⟨rfl, rfl⟩ := h_30
        refine jr_icmp_ge 63 dX6_isWord_33 (by decide) (fun c_33 => absurd c_33 (nI_ge (by omega) (by omega))) (fun c_33 => ?_)
        refine jr_aload_n dX6_isWord_36 rfl ?_
        refine gfX6_9 46 dX6_isWord_37 (hw.k rfl) (by exact hB0) ?_
        refine jr_aload_n dX6_isWord_40 rfl ?_
        refine gfX6_22 dX6_isWord_41 (hw.k rfl) ?_
        rw [t3]
        refine jr_iload_n dX6_isWord_44 rfl ?_
        refine jr_iadd dX6_isWord_45 ?_
        rw [nI_add]
        refine jr_bald (k.1 + j) (hw.k rfl) rfl ⟨by omega, by decide⟩ dX6_isWord_46 ?_
        rw [hB2 _ (by omega)]
        refine jr_aload_n dX6_isWord_47 rfl ?_
        refine jr_iload_n dX6_isWord_48 rfl ?_
        refine jc_Xi (c_schar g _ i j hi (by omega)) hi lkX6_81 rfl rfl (Nat.le_of_ble_eq_true rfl) (Nat.le_of_ble_eq_true rfl) dX6_isWord_49 (fun r_49 w_49 h_49 => ?_)
        obtain ⟨rfl, rfl⟩ := h_49
        refine jr_icmp_eq 57 dX6_isWord_52 (by decide) (fun c_52 => ?_) (fun c_52 => absurd (hiff.mpr hc) c_52)
        refine jr_iinc_2 (nI (j + 1)) dX6_isWord_57 (inc1 j) (by decide) rfl ?_
        refine jr_goto 28 dX6_isWord_60 (by decide) ?_
        exact h9
      · refine jr_iload_n dX6_isWord_28 rfl ?_
        refine jr_aload_n dX6_isWord_29 rfl ?_
        refine jc_Xi (c_slen g _ i hi) hi lkX6_76 rfl rfl (Nat.le_of_ble_eq_true rfl) (Nat.le_of_ble_eq_true rfl) dX6_isWord_30 (fun r_30 w_30 h_30 => ?_)
        obtain ⟨rfl, rfl⟩ := h_30
        refine jr_icmp_ge 63 dX6_isWord_33 (by decide) (fun c_33 => absurd c_33 (nI_ge (by omega) (by omega))) (fun c_33 => ?_)
        refine jr_aload_n dX6_isWord_36 rfl ?_
        refine gfX6_9 46 dX6_isWord_37 (hw.k rfl) (by exact hB0) ?_
        refine jr_aload_n dX6_isWord_40 rfl ?_
        refine gfX6_22 dX6_isWord_41 (hw.k rfl) ?_
        rw [t3]
        refine jr_iload_n dX6_isWord_44 rfl ?_
        refine jr_iadd dX6_isWord_45 ?_
        rw [nI_add]
        refine jr_bald (k.1 + j) (hw.k rfl) rfl ⟨by omega, by decide⟩ dX6_isWord_46 ?_
        rw [hB2 _ (by omega)]
        refine jr_aload_n dX6_isWord_47 rfl ?_
        refine jr_iload_n dX6_isWord_48 rfl ?_
        refine jc_Xi (c_schar g _ i j hi (by omega)) hi lkX6_81 rfl rfl (Nat.le_of_ble_eq_true rfl) (Nat.le_of_ble_eq_true rfl) dX6_isWord_49 (fun r_49 w_49 h_49 => ?_)
        obtain ⟨rfl, rfl⟩ := h_49
        refine jr_icmp_eq 57 dX6_isWord_52 (by decide) (fun c_52 => absurd c_52 (fun h => hc (hiff.mp h))) (fun c_52 => ?_)
        refine jr_iconst (0) dX6_isWord_55 (by decide) ?_
        refine jr_zret rfl (by decide) dX6_isWord_56 ?_
        exact hQ _ _ ⟨Or.inr ⟨fun h => hc (h.2.2 j (by omega)), rfl⟩, rfl⟩
  by_cases h1 : k.2.2.1 = 1
  · by_cases h2 : k.2.1 - k.1 = slen i
    · refine jr_aload_n dX6_isWord_0 rfl ?_
      refine gfX6_19 dX6_isWord_1 (hw.k rfl) ?_
      rw [t2]
      refine jr_iconst (2) dX6_isWord_4 (by decide) ?_
      refine jr_icmp_ne 24 dX6_isWord_5 (by decide) (fun c_5 => absurd (kmC_2.mpr h1) c_5) (fun c_5 => ?_)
      refine jr_aload_n dX6_isWord_8 rfl ?_
      refine gfX6_25 dX6_isWord_9 (hw.k rfl) ?_
      rw [t4]
      refine jr_aload_n dX6_isWord_12 rfl ?_
      refine gfX6_22 dX6_isWord_13 (hw.k rfl) ?_
      rw [t3]
      refine jr_isub dX6_isWord_16 ?_
      rw [pk_sub hbe]
      refine jr_aload_n dX6_isWord_17 rfl ?_
      refine jc_Xi (c_slen g _ i hi) hi lkX6_76 rfl rfl (Nat.le_of_ble_eq_true rfl) (Nat.le_of_ble_eq_true rfl) dX6_isWord_18 (fun r_18 w_18 h_18 => ?_)
      obtain ⟨rfl, rfl⟩ := h_18
      refine jr_icmp_eq 26 dX6_isWord_21 (by decide) (fun c_21 => ?_) (fun c_21 => absurd (by rw [h2]) c_21)
      refine jr_iconst (0) dX6_isWord_26 (by decide) ?_
      refine jr_istore_2 dX6_isWord_27 (by decide) rfl ?_
      exact L h1 h2 _ 0 rfl (fun q hq => absurd hq (by omega))
    · refine jr_aload_n dX6_isWord_0 rfl ?_
      refine gfX6_19 dX6_isWord_1 (hw.k rfl) ?_
      rw [t2]
      refine jr_iconst (2) dX6_isWord_4 (by decide) ?_
      refine jr_icmp_ne 24 dX6_isWord_5 (by decide) (fun c_5 => absurd (kmC_2.mpr h1) c_5) (fun c_5 => ?_)
      refine jr_aload_n dX6_isWord_8 rfl ?_
      refine gfX6_25 dX6_isWord_9 (hw.k rfl) ?_
      rw [t4]
      refine jr_aload_n dX6_isWord_12 rfl ?_
      refine gfX6_22 dX6_isWord_13 (hw.k rfl) ?_
      rw [t3]
      refine jr_isub dX6_isWord_16 ?_
      rw [pk_sub hbe]
      refine jr_aload_n dX6_isWord_17 rfl ?_
      refine jc_Xi (c_slen g _ i hi) hi lkX6_76 rfl rfl (Nat.le_of_ble_eq_true rfl) (Nat.le_of_ble_eq_true rfl) dX6_isWord_18 (fun r_18 w_18 h_18 => ?_)
      obtain ⟨rfl, rfl⟩ := h_18
      refine jr_icmp_eq 26 dX6_isWord_21 (by decide) (fun c_21 => absurd c_21 (fun h => h2 (nI_inj (by omega) (by omega) h))) (fun c_21 => ?_)
      refine jr_iconst (0) dX6_isWord_24 (by decide) ?_
      refine jr_zret rfl (by decide) dX6_isWord_25 ?_
      exact hQ _ _ ⟨Or.inr ⟨fun h => h2 h.2.1, rfl⟩, rfl⟩
  · refine jr_aload_n dX6_isWord_0 rfl ?_
    refine gfX6_19 dX6_isWord_1 (hw.k rfl) ?_
    rw [t2]
    refine jr_iconst (2) dX6_isWord_4 (by decide) ?_
    refine jr_icmp_ne 24 dX6_isWord_5 (by decide) (fun c_5 => ?_) (fun c_5 => absurd c_5 (fun h => h1 (kmC_2.mp h)))
    refine jr_iconst (0) dX6_isWord_24 (by decide) ?_
    refine jr_zret rfl (by decide) dX6_isWord_25 ?_
    exact hQ _ _ ⟨Or.inr ⟨fun h => h1 h.1, rfl⟩, rfl⟩
theorem all5 {P : Nat → Prop} {m : Nat} (hm : m ≤ 5) : (∀ j, j < m → P j) ↔ ((0 < m → P 0) ∧ (1 < m → P 1) ∧ (2 < m → P 2) ∧ (3 < m → P 3) ∧ (4 < m → P 4)) := by
  constructor
  · exact fun h => ⟨h 0, h 1, h 2, h 3, h 4⟩
  · rintro ⟨h0, h1, h2, h3, h4⟩ j hj
    have hc : j = 0 ∨ j = 1 ∨ j = 2 ∨ j = 3 ∨ j = 4 := by omega
    rcases hc with rfl | rfl | rfl | rfl | rfl
    · exact h0 hj
    · exact h1 hj
    · exact h2 hj
    · exact h3 hj
    · exact h4 hj
theorem wd_again (T : Nat → Int32) (k : Tok) : isWd T k 0 ↔ wdLP k.2.2.1 k.1 k.2.1 T 97 103 97 105 110 0 := by
  unfold isWd wdLP
  rw [show slen 0 = 5 from rfl, all5 (by decide), if_pos rfl]
  constructor
  · rintro ⟨h1, h2, a0, a1, a2, a3, a4⟩
    exact ⟨h1, h2, a0 (by decide), a1 (by decide), a2 (by decide), a3 (by decide), a4 (by decide), Or.inl rfl⟩
  · rintro ⟨h1, h2, a0, a1, a2, a3, a4, -⟩
    exact ⟨h1, h2, fun _ => a0, fun _ => a1, fun _ => a2, fun _ => a3, fun _ => a4⟩
theorem wd_fee (T : Nat → Int32) (k : Tok) : isWd T k 1 ↔ wdAP k.2.2.1 k.1 k.2.1 T 102 101 101 0 := by
  unfold isWd wdAP
  rw [show slen 1 = 3 from rfl, all5 (by decide), if_pos rfl]
  constructor
  · rintro ⟨h1, h2, a0, a1, a2, -, -⟩
    exact ⟨h1, h2, a0 (by decide), a1 (by decide), a2 (by decide), Or.inl rfl⟩
  · rintro ⟨h1, h2, a0, a1, a2, -⟩
    exact ⟨h1, h2, fun _ => a0, fun _ => a1, fun _ => a2, fun h => absurd h (by decide), fun h => absurd h (by decide)⟩
theorem wd_fine (T : Nat → Int32) (k : Tok) : isWd T k 2 ↔ wdAP k.2.2.1 k.1 k.2.1 T 102 105 110 101 := by
  unfold isWd wdAP
  rw [show slen 2 = 4 from rfl, all5 (by decide), if_neg (by decide)]
  constructor
  · rintro ⟨h1, h2, a0, a1, a2, a3, -⟩
    exact ⟨h1, h2, a0 (by decide), a1 (by decide), a2 (by decide), Or.inr (a3 (by decide))⟩
  · rintro ⟨h1, h2, a0, a1, a2, a3⟩
    exact ⟨h1, h2, fun _ => a0, fun _ => a1, fun _ => a2, fun _ => a3.resolve_left (by decide), fun h => absurd h (by decide)⟩
theorem c_readKey (g : Cx) (w : Wd) (hw : Wf w) (T : Nat → Int32) (n : Nat) (hn : n ≤ 96) (hTB : TpB T n) (k : Tok) (hT : CsT w T n k) (hI : TkI T n k) : CI g yX6_readKey cX6_readKey 1 (some .boolean) 7 0 0 [.ref (gb g + 43)] w
    (fun r w' => (keyF k.2.2.1 k.1 k.2.1 T = -1 ∧ r = 0 ∧ w = w') ∨ (∃ key f, key ≤ 2 ∧ keyF k.2.2.1 k.1 k.2.1 T = nI key ∧ r = 1 ∧ w' = sR w 43 f ∧ CsT w' T n (tokF T n k) ∧ f 5 = nI key ∧ f 6 = wI w 43 6 ∧ f 8 = wI w 43 8)) := by
  have e0 := wd_again T k
  have e1 := wd_fee T k
  have e2 := wd_fine T k
  refine CI.of (own := RX6) (nm := "readKey") (lv := [some (.ref (gb g + 43))]) (by decide) rfl rfl (Nat.le_of_ble_eq_true rfl) rfl (fun Q hQ => ?_)
  have K53 : ∀ (key : Nat) (w1 : Wd), key ≤ 2 → keyF k.2.2.1 k.1 k.2.1 T = nI key → k.2.2.1 = 1 → w1 = sR w 43 (upd (wI w 43) 5 (nI key)) → RR g RX6 cX6_readKey 1 (some .boolean) "readKey" 7 0 0 0 0 53 [some (.ref (gb g + 43))] [] w1 Q := by
    intro key w1 hk he hk1 ew
    have hw1 : Wf w1 := by rw [ew]; exact hw.sR _ _
    obtain ⟨⟨hB0, hB1, hB2⟩, t2, t3, t4⟩ := id hT
    have r43 : wI w1 43 = upd (wI w 43) 5 (nI key) := by rw [ew, wI_sR_s]
    have hB1' : CsB w1 T n := ⟨by rw [ew]; exact hB0, by rw [r43, pk_un (by decide)]; exact hB1, fun j hj => by rw [ew, wI_sR_n _ (by decide)]; exact hB2 j hj⟩
    have hlt := hI.2.2.1 (by rw [hk1]; decide)
    have hA := c_advance g w1 hw1 T n hn hTB hB1' k hI.1 (by rw [r43, pk_un (by decide)]; exact t4) ⟨fun _ => ⟨by omega, Or.inl hk1⟩, fun _ => Or.inr (by rw [r43, pk_un (by decide), t2]; exact kmC_2.mpr hk1)⟩
    refine jr_aload_n dX6_readKey_53 rfl ?_
    refine jc_Vv (hA) lkX6_47 (hw1.k rfl) rfl rfl (Nat.le_of_ble_eq_true rfl) (Nat.le_of_ble_eq_true rfl) dX6_readKey_54 (fun w_54 h_54 => ?_)
    obtain ⟨f, ef, hT2, ho⟩ := h_54
    refine jr_iconst (1) dX6_readKey_57 (by decide) ?_
    refine jr_zret rfl (by decide) dX6_readKey_58 ?_
    refine hQ _ _ (Or.inr ⟨key, f, hk, he, rfl, ?_, by rw [ef]; exact hT2, ?_, ?_, ?_⟩)
    · rw [ef, ew, sR_sR]
    · rw [ho 5 (by decide) (by decide) (by decide), r43, pk_us]
    · rw [ho 6 (by decide) (by decide) (by decide), r43, pk_un (by decide)]
    · rw [ho 8 (by decide) (by decide) (by decide), r43, pk_un (by decide)]
  have K34 : ¬ isWd T k 0 → ¬ isWd T k 1 → RR g RX6 cX6_readKey 1 (some .boolean) "readKey" 7 0 0 0 0 34 [some (.ref (gb g + 43))] [] w Q := by
    intro n0 n1
    have hky : keyF k.2.2.1 k.1 k.2.1 T = if wdAP k.2.2.1 k.1 k.2.1 T 102 105 110 101 then 2 else -1 := by
      rw [keyF, if_neg (fun h => n0 (e0.mpr h)), if_neg (fun h => n1 (e1.mpr h))]
    refine jr_aload_n dX6_readKey_34 rfl ?_
    refine jr_ldcS (i := 2) (q := (97, "fine")) rfl rfl dX6_readKey_35 ?_
    refine jc_Vi (c_isWord g _ hw T n hn hTB k hT hI 2 (by decide)) lkX6_91 (hw.k rfl) rfl rfl (Nat.le_of_ble_eq_true rfl) (Nat.le_of_ble_eq_true rfl) dX6_readKey_37 (fun r_37 w_37 h_37 => ?_)
    obtain ⟨hr, rfl⟩ := h_37
    rcases hr with ⟨hy, rfl⟩ | ⟨hy, rfl⟩
    · rw [if_pos (e2.mp hy)] at hky
      refine jr_if_eq 51 dX6_readKey_40 (by decide) (fun c => absurd c (by decide)) (fun _ => ?_)
      refine jr_aload_n dX6_readKey_43 rfl ?_
      refine jr_iconst (2) dX6_readKey_44 (by decide) ?_
      refine pfX6_28 dX6_readKey_45 (hw.k rfl) ?_
      refine jr_goto 53 dX6_readKey_48 (by decide) ?_
      exact K53 2 _ (by decide) hky hy.1 rfl
    · rw [if_neg (fun h => hy (e2.mpr h))] at hky
      refine jr_if_eq 51 dX6_readKey_40 (by decide) (fun _ => ?_) (fun c => absurd rfl c)
      refine jr_iconst (0) dX6_readKey_51 (by decide) ?_
      refine jr_zret rfl (by decide) dX6_readKey_52 ?_
      exact hQ _ _ (Or.inl ⟨hky, rfl, rfl⟩)
  have K17 : ¬ isWd T k 0 → RR g RX6 cX6_readKey 1 (some .boolean) "readKey" 7 0 0 0 0 17 [some (.ref (gb g + 43))] [] w Q := by
    intro n0
    refine jr_aload_n dX6_readKey_17 rfl ?_
    refine jr_ldcS (i := 1) (q := (95, "fee")) rfl rfl dX6_readKey_18 ?_
    refine jc_Vi (c_isWord g _ hw T n hn hTB k hT hI 1 (by decide)) lkX6_91 (hw.k rfl) rfl rfl (Nat.le_of_ble_eq_true rfl) (Nat.le_of_ble_eq_true rfl) dX6_readKey_20 (fun r_20 w_20 h_20 => ?_)
    obtain ⟨hr, rfl⟩ := h_20
    rcases hr with ⟨hy, rfl⟩ | ⟨hy, rfl⟩
    · refine jr_if_eq 34 dX6_readKey_23 (by decide) (fun c => absurd c (by decide)) (fun _ => ?_)
      refine jr_aload_n dX6_readKey_26 rfl ?_
      refine jr_iconst (1) dX6_readKey_27 (by decide) ?_
      refine pfX6_28 dX6_readKey_28 (hw.k rfl) ?_
      refine jr_goto 53 dX6_readKey_31 (by decide) ?_
      exact K53 1 _ (by decide) (by rw [keyF, if_neg (fun h => n0 (e0.mpr h)), if_pos (e1.mp hy)]; rfl) hy.1 rfl
    · refine jr_if_eq 34 dX6_readKey_23 (by decide) (fun _ => ?_) (fun c => absurd rfl c)
      exact K34 n0 hy
  refine jr_aload_n dX6_readKey_0 rfl ?_
  refine jr_ldcS (i := 0) (q := (89, "again")) rfl rfl dX6_readKey_1 ?_
  refine jc_Vi (c_isWord g _ hw T n hn hTB k hT hI 0 (by decide)) lkX6_91 (hw.k rfl) rfl rfl (Nat.le_of_ble_eq_true rfl) (Nat.le_of_ble_eq_true rfl) dX6_readKey_3 (fun r_3 w_3 h_3 => ?_)
  obtain ⟨hr, rfl⟩ := h_3
  rcases hr with ⟨hy, rfl⟩ | ⟨hy, rfl⟩
  · refine jr_if_eq 17 dX6_readKey_6 (by decide) (fun c => absurd c (by decide)) (fun _ => ?_)
    refine jr_aload_n dX6_readKey_9 rfl ?_
    refine jr_iconst (0) dX6_readKey_10 (by decide) ?_
    refine pfX6_28 dX6_readKey_11 (hw.k rfl) ?_
    refine jr_goto 53 dX6_readKey_14 (by decide) ?_
    exact K53 0 _ (by decide) (by rw [keyF, if_pos (e0.mp hy)]; rfl) hy.1 rfl
  · refine jr_if_eq 17 dX6_readKey_6 (by decide) (fun _ => ?_) (fun c => absurd rfl c)
    exact K17 hy
theorem c_addStep (g : Cx) (w : Wd) (hw : Wf w) (c : Nat) (hc : c ≤ 96) (h8 : wI w 43 8 = nI c) (x : Int32) : CV g yX6_addStep cX6_addStep 2 1 0 0 [.ref (gb g + 43), .int x] w (fun w' => (c = 96 ∧ w' = w) ∨ (c < 96 ∧ w' = sR (sR w 45 (upd (wI w 45) c x)) 43 (upd (wI w 43) 8 (nI (c + 1))))) := by
  refine CV.of (own := RX6) (nm := "addStep") (lv := [some (.ref (gb g + 43)), some (.int x)]) (by decide) rfl rfl (Nat.le_of_ble_eq_true rfl) rfl (fun Q hQ => ?_)
  by_cases h96 : c = 96
  · refine jr_aload_n dX6_addStep_0 rfl ?_
    refine gfX6_38 dX6_addStep_1 (hw.k rfl) ?_
    rw [h8]
    refine jr_aload_n dX6_addStep_4 rfl ?_
    refine gfX6_34 45 dX6_addStep_5 (hw.k rfl) (hw.f rfl) ?_
    refine jr_alen (hw.k rfl) (by decide) dX6_addStep_8 ?_
    refine jr_icmp_ge 32 dX6_addStep_9 (by decide) (fun c_9 => ?_) (fun c_9 => absurd (by rw [h96]; exact Int32.le_refl _) c_9)
    refine jr_vret rfl dX6_addStep_32 ?_
    exact hQ _ (Or.inl ⟨h96, rfl⟩)
  · refine jr_aload_n dX6_addStep_0 rfl ?_
    refine gfX6_38 dX6_addStep_1 (hw.k rfl) ?_
    rw [h8]
    refine jr_aload_n dX6_addStep_4 rfl ?_
    refine gfX6_34 45 dX6_addStep_5 (hw.k rfl) (hw.f rfl) ?_
    refine jr_alen (hw.k rfl) (by decide) dX6_addStep_8 ?_
    refine jr_icmp_ge 32 dX6_addStep_9 (by decide) (fun c_9 => absurd c_9 (nI_ge (by omega) (by decide))) (fun c_9 => ?_)
    refine jr_aload_n dX6_addStep_12 rfl ?_
    refine gfX6_34 45 dX6_addStep_13 (hw.k rfl) (hw.f rfl) ?_
    refine jr_aload_n dX6_addStep_16 rfl ?_
    refine gfX6_38 dX6_addStep_17 (hw.k rfl) ?_
    rw [h8]
    refine jr_iload_n dX6_addStep_20 rfl ?_
    refine jr_iast c (hw.k rfl) rfl ⟨by omega, by decide⟩ dX6_addStep_21 ?_
    refine jr_aload_n dX6_addStep_22 rfl ?_
    refine jr_dup dX6_addStep_23 rfl ?_
    refine gfX6_38 dX6_addStep_24 (hw.k rfl) ?_
    rw [wI_sR_n _ (by decide), h8]
    refine jr_iconst (1) dX6_addStep_27 (by decide) ?_
    refine jr_iadd dX6_addStep_28 ?_
    rw [jlit 1, nI_add]
    refine pfX6_38 dX6_addStep_29 (hw.k rfl) ?_
    rw [wI_sR_n _ (by decide)]
    refine jr_vret rfl dX6_addStep_32 ?_
    exact hQ _ (Or.inr ⟨by omega, rfl⟩)
