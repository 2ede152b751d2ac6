-- nights of the class: the cells of one, what it stands for, what is read of it
def NA (a : Nat) : Prop := a = 1 ∨ a = 12 ∨ a = 23
section
variable {a : Nat} {w : Wd}
theorem NA.n (h : NA a) (hw : Wf w) : jK w a 2 0 := by rcases h with rfl | rfl | rfl <;> exact hw.k rfl
theorem NA.c (h : NA a) (hw : Wf w) : jK w (a + 1) 12 6 := by rcases h with rfl | rfl | rfl <;> exact hw.k rfl
theorem NA.o (h : NA a) (hw : Wf w) : jK w (a + 2) 11 12 := by rcases h with rfl | rfl | rfl <;> exact hw.k rfl
theorem NA.t (h : NA a) (hw : Wf w) : jK w (a + 3) 15 14 := by rcases h with rfl | rfl | rfl <;> exact hw.k rfl
theorem NA.l (h : NA a) (hw : Wf w) : jK w (a + 4) 11 3 := by rcases h with rfl | rfl | rfl <;> exact hw.k rfl
theorem NA.k (h : NA a) (hw : Wf w) {k : Nat} (hk : k < 6) : jK w (a + 5 + k) 0 0 := by
  have hc : k = 0 ∨ k = 1 ∨ k = 2 ∨ k = 3 ∨ k = 4 ∨ k = 5 := by omega
  rcases h with rfl | rfl | rfl <;> rcases hc with rfl | rfl | rfl | rfl | rfl | rfl <;> exact hw.k rfl
theorem NA.rc (h : NA a) (hw : Wf w) : wF w a 0 = some (a + 1) := by rcases h with rfl | rfl | rfl <;> exact hw.f rfl
theorem NA.ro (h : NA a) (hw : Wf w) : wF w a 9 = some (a + 2) := by rcases h with rfl | rfl | rfl <;> exact hw.f rfl
theorem NA.rt (h : NA a) (hw : Wf w) : wF w a 11 = some (a + 3) := by rcases h with rfl | rfl | rfl <;> exact hw.f rfl
theorem NA.rl (h : NA a) (hw : Wf w) : wF w a 13 = some (a + 4) := by rcases h with rfl | rfl | rfl <;> exact hw.f rfl
theorem NA.rk (h : NA a) (hw : Wf w) {k : Nat} (hk : k < 6) : wF w (a + 1) k = some (a + 5 + k) := by
  have hc : k = 0 ∨ k = 1 ∨ k = 2 ∨ k = 3 ∨ k = 4 ∨ k = 5 := by omega
  rcases h with rfl | rfl | rfl <;> rcases hc with rfl | rfl | rfl | rfl | rfl | rfl <;> exact hw.f rfl
theorem NA.le (h : NA a) : 1 ≤ a ∧ a ≤ 23 := by rcases h with rfl | rfl | rfl <;> omega
end
def lwF (s : Nat → Int32) (q : Nat) : Int32 := if (cntF s (nI q) (sN s 1)).toInt < 0 then -1000000005 else cntF s (nI q) (sN s 1)
/-- the night at a stands for the row s: its numbers; its notes; its clocks; which texts count; its texts -/
def NR1 (f s : Nat → Int32) : Prop := f 1 = s 0 ∧ f 2 = s 6 ∧ f 3 = s 7 ∧ f 4 = s 3 ∧ f 5 = s 4 ∧ f 6 = s 5 ∧ f 7 = s 2 ∧ f 8 = s 9 ∧ f 10 = s 8 ∧ f 12 = s 1
def NR2 (f s : Nat → Int32) : Prop := ∀ j, j < 12 → f j = s (28 + j)
def NR3 (w : Wd) (a : Nat) (s : Nat → Int32) : Prop := ∀ k, k < 6 → wI w (a + 5 + k) 0 = s (10 + 3 * k + 0) ∧ wI w (a + 5 + k) 1 = s (10 + 3 * k + 1) ∧ wI w (a + 5 + k) 2 = s (10 + 3 * k + 2)
def NR4 (f s : Nat → Int32) : Prop := ∀ q, q < 3 → f q = lwF s q
def NR5 (w : Wd) (F : Nat → Option Nat) (s : Nat → Int32) : Prop := ∀ t, t < sN s 1 → ∃ b, F t = some b ∧ TxR w b s t
def NR (w : Wd) (a : Nat) (s : Nat → Int32) : Prop := NR1 (wI w a) s ∧ NR2 (wI w (a + 2)) s ∧ NR3 w a s ∧ NR4 (wI w (a + 4)) s ∧ NR5 w (wF w (a + 3)) s
/-- the stacks of texts, which nobody reads -/
def scK : Nat → Prop := fun i => 98 ≤ i ∧ i % 3 = 1
theorem scK_n {i : Nat} (h : i < 98) : ¬ scK i := fun e => by unfold scK at e; omega
theorem NR.sm {w w' : Wd} {a : Nat} {s : Nat → Int32} {S : Nat → Prop} (h : NR w a s) (hS : Sm S w w') (hn : ∀ i, (a ≤ i ∧ i ≤ a + 10) ∨ (98 ≤ i ∧ ¬ i % 3 = 1) → ¬ S i) : NR w' a s := by
  obtain ⟨h1, h2, h3, h4, h5⟩ := h
  refine ⟨?_, ?_, ?_, ?_, ?_⟩
  · rw [hS.row (hn a (by omega))]; exact h1
  · rw [hS.row (hn (a + 2) (by omega))]; exact h2
  · intro k hk
    rw [hS.row (hn (a + 5 + k) (by omega))]; exact h3 k hk
  · rw [hS.row (hn (a + 4) (by omega))]; exact h4
  · intro t ht
    obtain ⟨b, hb1, hb2⟩ := h5 t ht
    exact ⟨b, by rw [hS.F]; exact hb1, hb2.sm hS (fun i h1 h2 => hn i (Or.inr ⟨h1, h2⟩))⟩
theorem NR.k {w w' : Wd} {a : Nat} {s : Nat → Int32} (h : NR w a s) (ha : NA a) (hS : Sm scK w w') : NR w' a s :=
  h.sm hS (fun i hi e => by have := ha.le; unfold scK at e; omega)
theorem TxR.same {w : Wd} {b : Nat} {s s' : Nat → Int32} {t : Nat} (h : TxR w b s t) (hT : TxOk s t) (hS : SameT s s' t) : TxR w b s' t := by
  obtain ⟨h0, h1, h2, h3, h4, h5, h6, h7, h8⟩ := h
  have hn : tMany s t ≤ 93 := hT.2.1.2
  have em := hS.many
  refine ⟨h0, h1, by rw [em]; exact h2, by rw [em]; exact h3, h4, h5, by rw [hS _ (by omega) (by omega)]; exact h6, by rw [hS _ (by omega) (by omega)]; exact h7, fun k hk => ?_⟩
  rw [em] at hk
  rw [(hS.steps hn k hk).1, (hS.steps hn k hk).2]
  exact h8 k hk
theorem lwF_same {s s' : Nat → Int32} (h : SameX s s') (q : Nat) : lwF s' q = lwF s q := by
  unfold lwF
  rw [h.cnt]
theorem NR5.same {w : Wd} {F : Nat → Option Nat} {s s' : Nat → Int32} (h : NR5 w F s) (hX : SameX s s') (hT : ∀ t, t < sN s 1 → TxOk s t) : NR5 w F s' := by
  intro t ht
  rw [sN_congr hX.1] at ht
  obtain ⟨b, hb1, hb2⟩ := h t ht
  exact ⟨b, hb1, hb2.same (hT t ht) (hX.2 t ht)⟩
theorem jrf_n (g : Cx) : jrf g none = .null := rfl
theorem jrf_s (g : Cx) (b : Nat) : jrf g (some b) = .ref (gb g + b) := rfl
theorem jrf_or (g : Cx) (x : Option Nat) : jrf g x = .null ∨ ∃ a, jrf g x = .ref a := by
  cases x with
  | none => exact Or.inl rfl
  | some b => exact Or.inr ⟨_, rfl⟩
def txO (w : Wd) (a : Nat) (s : Nat → Int32) (x : Int32) : Option Nat := if 0 ≤ x.toInt ∧ x.toInt < sN s 1 then wF w (a + 3) x.toNatClampNeg else none
theorem c_hasClock (g : Cx) (w : Wd) (hw : Wf w) (a : Nat) (hA : NA a) (s : Nat → Int32) (hN : NR w a s) (h0 : Nb s 0 6) (x : Int32) : CI g yX2_hasClock cX2_hasClock 2 (some .boolean) 2 0 0 [.ref (gb g + a), .int x] w (fun r w' => r = jb (isC s x) ∧ w = w') := by
  have h6 := h0.2
  refine CI.of (own := RX2) (nm := "hasClock") (lv := [some (.ref (gb g + a)), some (.int x)]) (by decide) rfl rfl (Nat.le_of_ble_eq_true rfl) rfl (fun Q hQ => ?_)
  refine jr_iload_n dX2_hasClock_0 rfl ?_
  refine jr_aload_n dX2_hasClock_1 rfl ?_
  refine gfX2_17 dX2_hasClock_2 (hA.n hw) ?_
  rw [hN.1.1, h0.1]
  refine jc_SNi (c_within g _ _ _) lkX2_73 rfl rfl (Nat.le_of_ble_eq_true rfl) (Nat.le_of_ble_eq_true rfl) dX2_hasClock_5 (fun r_5 w_5 h_5 => ?_)
  obtain ⟨rfl, rfl⟩ := h_5
  refine jr_zret rfl jb_n dX2_hasClock_8 ?_
  exact hQ _ _ ⟨by rw [i_nI (by omega)], rfl⟩
theorem c_timeNow (g : Cx) (w : Wd) (hw : Wf w) (a : Nat) (hA : NA a) (s : Nat → Int32) (hN : NR w a s) (h2 : Nb s 2 20000) : CI g yX2_timeNow cX2_timeNow 1 (some .int) 1 0 0 [.ref (gb g + a)] w (fun r w' => r = nI (sN s 2 % 720) ∧ w = w') := by
  have h6 := h2.2
  refine CI.of (own := RX2) (nm := "timeNow") (lv := [some (.ref (gb g + a))]) (by decide) rfl rfl (Nat.le_of_ble_eq_true rfl) rfl (fun Q hQ => ?_)
  refine jr_aload_n dX2_timeNow_0 rfl ?_
  refine gfX2_36 dX2_timeNow_1 (hA.n hw) ?_
  rw [hN.1.2.2.2.2.2.2.1, h2.1]
  refine jr_sipush (720) dX2_timeNow_4 (by decide) ?_
  refine jr_irem dX2_timeNow_7 (by decide) ?_
  refine jr_iret rfl dX2_timeNow_8 ?_
  refine hQ _ _ ⟨?_, rfl⟩
  exact pk_rem (by omega) (by decide) (by decide)
theorem c_bedCount (g : Cx) (w : Wd) (hw : Wf w) (a : Nat) (hA : NA a) (s : Nat → Int32) (hN : NR w a s) (x : Int32) : CI g yX2_bedCount cX2_bedCount 2 (some .int) 1 0 0 [.ref (gb g + a), .int x] w (fun r w' => r = (if x.toInt = 0 then s 3 else if x.toInt = 1 then s 4 else if x.toInt = 2 then s 5 else -1000000001) ∧ w = w') := by
  refine CI.of (own := RX2) (nm := "bedCount") (lv := [some (.ref (gb g + a)), some (.int x)]) (by decide) rfl rfl (Nat.le_of_ble_eq_true rfl) rfl (fun Q hQ => ?_)
  refine jr_iload_n dX2_bedCount_0 rfl ?_
  refine swX2_bedCount_1 (fun c_1 => ?_) (fun c_1 => ?_) (fun c_1 => ?_) (fun c_1 => ?_)
  · refine jr_aload_n dX2_bedCount_28 rfl ?_
    refine gfX2_27 dX2_bedCount_29 (hA.n hw) ?_
    refine jr_iret rfl dX2_bedCount_32 ?_
    exact hQ _ _ ⟨by rw [if_pos (by omega)]; exact hN.1.2.2.2.1, rfl⟩
  · refine jr_aload_n dX2_bedCount_33 rfl ?_
    refine gfX2_30 dX2_bedCount_34 (hA.n hw) ?_
    refine jr_iret rfl dX2_bedCount_37 ?_
    exact hQ _ _ ⟨by rw [if_neg (by omega), if_pos (by omega)]; exact hN.1.2.2.2.2.1, rfl⟩
  · refine jr_aload_n dX2_bedCount_38 rfl ?_
    refine gfX2_33 dX2_bedCount_39 (hA.n hw) ?_
    refine jr_iret rfl dX2_bedCount_42 ?_
    exact hQ _ _ ⟨by rw [if_neg (by omega), if_neg (by omega), if_pos (by omega)]; exact hN.1.2.2.2.2.2.1, rfl⟩
  · refine jr_ldc (-1000000001) ckX2_87 dX2_bedCount_43 ?_
    refine jr_iret rfl dX2_bedCount_45 ?_
    exact hQ _ _ ⟨by rw [if_neg (by omega), if_neg (by omega), if_neg (by omega)], rfl⟩
theorem c_textAt (g : Cx) (w : Wd) (hw : Wf w) (a : Nat) (hA : NA a) (s : Nat → Int32) (hN : NR w a s) (h1 : Nb s 1 14) (x : Int32) : CR g yX2_textAt cX2_textAt 2 (some (.object "StrokesHeard$Text")) 1 0 0 [.ref (gb g + a), .int x] w (fun r w' => r = jrf g (txO w a s x) ∧ w = w') := by
  have h14 := h1.2
  have e1 : (nI (sN s 1)).toInt = (sN s 1 : Int) := i_nI (by omega)
  refine CR.of (own := RX2) (nm := "textAt") (lv := [some (.ref (gb g + a)), some (.int x)]) (by decide) rfl rfl (Nat.le_of_ble_eq_true rfl) rfl (fun Q hQ => ?_)
  by_cases hx : 0 ≤ x.toInt ∧ x.toInt < sN s 1
  · obtain ⟨t, ht, et⟩ := i_of (n := sN s 1) (x := x) hx.1 hx.2
    have e2 : txO w a s x = wF w (a + 3) t := by rw [txO, if_pos hx, et, nI_clamp (by omega)]
    subst et
    refine jr_iload_n dX2_textAt_0 rfl ?_
    refine jr_if_lt 21 dX2_textAt_1 (by decide) (fun c_1 => absurd c_1 (nI_pos (by omega))) (fun c_1 => ?_)
    refine jr_iload_n dX2_textAt_4 rfl ?_
    refine jr_aload_n dX2_textAt_5 rfl ?_
    refine gfX2_55 dX2_textAt_6 (hA.n hw) ?_
    rw [hN.1.2.2.2.2.2.2.2.2.2, h1.1]
    refine jr_icmp_ge 21 dX2_textAt_9 (by decide) (fun c_9 => absurd c_9 (nI_ge ht (by omega))) (fun c_9 => ?_)
    refine jr_aload_n dX2_textAt_12 rfl ?_
    refine gfX2_51 (a + 3) dX2_textAt_13 (hA.n hw) (hA.rt hw) ?_
    refine jr_iload_n dX2_textAt_16 rfl ?_
    refine jr_aald t (hA.t hw) (by decide) rfl ⟨by omega, by decide⟩ rfl dX2_textAt_17 ?_
    refine jr_goto 22 dX2_textAt_18 (by decide) ?_
    refine jr_aret rfl (Or.inl ⟨_, rfl⟩) (jrf_or g _) dX2_textAt_22 ?_
    exact hQ _ _ ⟨by rw [e2], rfl⟩
  · have e2 : txO w a s x = none := by rw [txO, if_neg hx]
    refine jr_iload_n dX2_textAt_0 rfl ?_
    refine jr_if_lt 21 dX2_textAt_1 (by decide) (fun c_1 => ?_) (fun c_1 => ?_)
    · simp only [lt_i, le_i, eq_i, Int32.reduceToInt] at c_1
      refine jr_null dX2_textAt_21 ?_
      refine jr_aret rfl (Or.inl ⟨_, rfl⟩) (Or.inl rfl) dX2_textAt_22 ?_
      exact hQ _ _ ⟨by rw [e2]; rfl, rfl⟩
    · simp only [lt_i, le_i, eq_i, Int32.reduceToInt] at c_1
      refine jr_iload_n dX2_textAt_4 rfl ?_
      refine jr_aload_n dX2_textAt_5 rfl ?_
      refine gfX2_55 dX2_textAt_6 (hA.n hw) ?_
      rw [hN.1.2.2.2.2.2.2.2.2.2, h1.1]
      refine jr_icmp_ge 21 dX2_textAt_9 (by decide) (fun c_9 => ?_) (fun c_9 => ?_)
      · simp only [lt_i, le_i, eq_i, Int32.reduceToInt] at c_9
        refine jr_null dX2_textAt_21 ?_
        refine jr_aret rfl (Or.inl ⟨_, rfl⟩) (Or.inl rfl) dX2_textAt_22 ?_
        exact hQ _ _ ⟨by rw [e2]; rfl, rfl⟩
      · simp only [lt_i, le_i, eq_i, Int32.reduceToInt] at c_9
        exfalso; omega
theorem c_law (g : Cx) (w : Wd) (hw : Wf w) (a : Nat) (hA : NA a) (s : Nat → Int32) (hN : NR w a s) (h1 : Nb s 1 14) (q : Nat) (hq : q < 3) : CR g yX2_law cX2_law 2 (some (.object "StrokesHeard$Text")) 2 0 0 [.ref (gb g + a), .int (nI q)] w (fun r w' => r = jrf g (txO w a s (lwF s q)) ∧ w = w') := by
  refine CR.of (own := RX2) (nm := "law") (lv := [some (.ref (gb g + a)), some (.int (nI q))]) (by decide) rfl rfl (Nat.le_of_ble_eq_true rfl) rfl (fun Q hQ => ?_)
  have eq0 : (nI q).toInt = (q : Int) := i_nI (by omega)
  refine jr_iload_n dX2_law_0 rfl ?_
  refine jr_iconst (3) dX2_law_1 (by decide) ?_
  refine jc_SNi (c_within g _ _ _) lkX2_73 rfl rfl (Nat.le_of_ble_eq_true rfl) (Nat.le_of_ble_eq_true rfl) dX2_law_2 (fun r_2 w_2 h_2 => ?_)
  obtain ⟨rfl, rfl⟩ := h_2
  refine jr_if_eq 21 dX2_law_5 (by decide) (fun c_5 => absurd c_5 (jb_1.mpr ⟨by omega, by simp only [Int32.reduceToInt]; omega⟩)) (fun c_5 => ?_)
  refine jr_aload_n dX2_law_8 rfl ?_
  refine jr_aload_n dX2_law_9 rfl ?_
  refine gfX2_59 (a + 4) dX2_law_10 (hA.n hw) (hA.rl hw) ?_
  refine jr_iload_n dX2_law_13 rfl ?_
  refine jr_iald q (hA.l hw) rfl ⟨hq, by decide⟩ dX2_law_14 ?_
  rw [hN.2.2.2.1 q hq]
  refine jc_Vr (c_textAt g _ hw a hA s hN h1 _) lkX2_88 (hA.n hw) rfl rfl (Nat.le_of_ble_eq_true rfl) (Nat.le_of_ble_eq_true rfl) dX2_law_15 (fun r_15 w_15 h_15 => ?_)
  obtain ⟨rfl, rfl⟩ := h_15
  refine jr_goto 22 dX2_law_18 (by decide) ?_
  refine jr_aret rfl (Or.inl ⟨_, rfl⟩) (jrf_or g _) dX2_law_22 ?_
  exact hQ _ _ ⟨rfl, rfl⟩
/-- a text that counts is there -/
theorem law_none {w : Wd} {a : Nat} {s : Nat → Int32} {q : Nat} (e : cntF s (nI q) (sN s 1) = -1) : txO w a s (lwF s q) = none := by
  rw [lwF, e, if_pos (by decide), txO, if_neg (fun h => absurd h.1 (by decide))]
theorem law_some {w : Wd} {a : Nat} {s : Nat → Int32} {q t : Nat} (h14 : sN s 1 ≤ 14) (ht : t < sN s 1) (e : cntF s (nI q) (sN s 1) = nI t) : txO w a s (lwF s q) = wF w (a + 3) t := by
  have e1 : (nI t).toInt = (t : Int) := i_nI (by omega)
  rw [lwF, e, if_neg (by omega), txO, if_pos (by omega), nI_clamp (by omega)]
theorem nmV_A (x y z v : Int32) (h : nameOk 0 v) : nmV x y z v = nmA x y z v := by
  rcases h with ⟨-, rfl | rfl | rfl⟩ | ⟨h9, -⟩ | ⟨h9, -⟩
  · rfl
  · rfl
  · rfl
  · cases h9
  · cases h9
theorem nmV_F (x y z v : Int32) (h : nameOk 1 v) : nmV x y z v = nmF x y v := by
  rcases h with ⟨h9, -⟩ | ⟨-, rfl | rfl⟩ | ⟨h9, -⟩
  · cases h9
  · rfl
  · rfl
  · cases h9
theorem nmV_I (x y z v : Int32) (h : nameOk 2 v) : nmV x y z v = nmI x y v := by
  rcases h with ⟨h9, -⟩ | ⟨h9, -⟩ | ⟨-, rfl | rfl⟩
  · cases h9
  · cases h9
  · rfl
  · rfl
/-- a clock of the class -/
def Ck (w : Wd) (c kd o tn : Nat) : Prop := (c < 98 ∧ jK w c 0 0) ∧ wI w c 0 = nI kd ∧ wI w c 1 = nI o ∧ wI w c 2 = nI tn ∧ kd ≤ 5 ∧ o ≤ 59 ∧ tn ≤ 9
theorem Ck.sm {w w' : Wd} {c kd o tn : Nat} {S : Nat → Prop} (h : Ck w c kd o tn) (hS : Sm S w w') (hn : ¬ S c) : Ck w' c kd o tn := by
  obtain ⟨⟨h0, h1⟩, h2, h3, h4, h5⟩ := h
  have e := hS.row hn
  exact ⟨⟨h0, hS.K.mpr h1⟩, by rw [e]; exact h2, by rw [e]; exact h3, by rw [e]; exact h4, h5⟩
theorem NR.ck {w : Wd} {a : Nat} {s : Nat → Int32} (h : NR w a s) (hA : NA a) (hw : Wf w) (hC : ClkOk s) {k : Nat} (hk : k < 6) : Ck w (a + 5 + k) (sN s (10 + 3 * k + 0)) (sN s (10 + 3 * k + 1)) (sN s (10 + 3 * k + 2)) := by
  obtain ⟨h1, h2, h3⟩ := h.2.2.1 k hk
  obtain ⟨c1, c2, c3⟩ := hC k hk
  have := hA.le
  exact ⟨⟨by omega, hA.k hw hk⟩, by rw [h1]; exact c1.1, by rw [h2]; exact c2.1, by rw [h3]; exact c3.1, c1.2, c2.2, c3.2⟩
theorem c_againMinute (g : Cx) (w : Wd) (hw : Wf w) (a : Nat) (hA : NA a) (s : Nat → Int32) (hG : Gd s) (hN : NR w a s) (c kd o0 tn : Nat) (hC : Ck w c kd o0 tn) (o h : Nat) : CI g yX2_againMinute cX2_againMinute 5 (some .int) 3 0 0 [.ref (gb g + a), .ref (gb g + c), .int (nI o), .int (nI h)] w (fun r w' => r = nI (agW s o tn h) ∧ Sm scK w w') := by
  obtain ⟨-, hT, -, -, -, -, -, -, hX⟩ := id hG
  have hn : sN s 1 ≤ 14 := hT.2
  refine CI.of (own := RX2) (nm := "againMinute") (lv := [some (.ref (gb g + a)), some (.ref (gb g + c)), some (.int (nI o)), some (.int (nI h)), none]) (by decide) rfl rfl (Nat.le_of_ble_eq_true rfl) rfl (fun Q hQ => ?_)
  rcases cnt_rng s (nI 0) (sN s 1) (by omega) with e | ⟨t, ht, e, hkey⟩
  · refine jr_aload_n dX2_againMinute_0 rfl ?_
    refine jr_iconst (0) dX2_againMinute_1 (by decide) ?_
    refine jc_Vr (c_law g _ hw a hA s hN hT 0 (by decide)) lkX2_95 (hA.n hw) rfl rfl (Nat.le_of_ble_eq_true rfl) (Nat.le_of_ble_eq_true rfl) dX2_againMinute_2 (fun r_2 w_2 h_2 => ?_)
    obtain ⟨rfl, rfl⟩ := h_2
    rw [law_none e, jrf_n]
    refine jr_astoreN_4 dX2_againMinute_5 (by decide) rfl ?_
    refine jr_aloadN dX2_againMinute_7 rfl ?_
    refine jr_ifnonnullN dX2_againMinute_9 ?_
    refine jr_iconst (2) dX2_againMinute_12 (by decide) ?_
    refine jr_goto 33 dX2_againMinute_13 (by decide) ?_
    refine jr_iret rfl dX2_againMinute_33 ?_
    exact hQ _ _ ⟨by rw [agW, show (0 : Int32) = nI 0 from rfl, e, if_pos (by decide)]; rfl, Sm.rf⟩
  · obtain ⟨b, hb1, hb2⟩ := hN.2.2.2.2 t ht
    have hTx := hX t ht
    have h0 : sN s (40 + 200 * t) = 0 := sN_of hkey (by decide)
    have hv : evF s t (nmV (nI o) (nI tn) (nI h)) = evF s t (nmA (nI o) (nI tn) (nI h)) := ev_congr hTx (fun v hv => by rw [h0] at hv; exact nmV_A _ _ _ _ hv)
    have hag : agW s o tn h = clipF (evF s t (nmA (nI o) (nI tn) (nI h))) := by
      rw [agW, show (0 : Int32) = nI 0 from rfl, e, if_neg (by have := i_nI (n := t) (by omega); omega), nI_clamp (by omega)]
    refine jr_aload_n dX2_againMinute_0 rfl ?_
    refine jr_iconst (0) dX2_againMinute_1 (by decide) ?_
    refine jc_Vr (c_law g _ hw a hA s hN hT 0 (by decide)) lkX2_95 (hA.n hw) rfl rfl (Nat.le_of_ble_eq_true rfl) (Nat.le_of_ble_eq_true rfl) dX2_againMinute_2 (fun r_2 w_2 h_2 => ?_)
    obtain ⟨rfl, rfl⟩ := h_2
    rw [law_some hn ht e, hb1, jrf_s]
    refine jr_astore_4 dX2_againMinute_5 (by decide) rfl ?_
    refine jr_aload dX2_againMinute_7 rfl ?_
    refine jr_ifnonnull 16 dX2_againMinute_9 (by decide) ?_
    refine jr_aload dX2_againMinute_16 rfl ?_
    refine jr_iload_n dX2_againMinute_18 rfl ?_
    refine jr_aload_n dX2_againMinute_19 rfl ?_
    refine gfX2_83 dX2_againMinute_20 hC.1.2 ?_
    rw [hC.2.2.2.1]
    refine jr_iload_n dX2_againMinute_23 rfl ?_
    refine jc_Vi (c_value g _ s t b hTx hb2 _ _ _) lkX2_98 hb2.2.1 rfl rfl (Nat.le_of_ble_eq_true rfl) (Nat.le_of_ble_eq_true rfl) dX2_againMinute_24 (fun r_24 w_24 h_24 => ?_)
    obtain ⟨rfl, hS⟩ := h_24
    rw [hv]
    generalize evF s t (nmA (nI o) (nI tn) (nI h)) = v at hag
    have hS2 : Sm scK w w_24 := hS.mono (fun i hi => by subst hi; exact ⟨by have := hb2.1.1; omega, by have := hb2.1.2; omega⟩)
    refine jr_iconst (1) dX2_againMinute_27 (by decide) ?_
    refine jr_bipush (14) dX2_againMinute_28 (by decide) ?_
    refine jc_SNi (c_held g _ _ _ _) lkX2_102 rfl rfl (Nat.le_of_ble_eq_true rfl) (Nat.le_of_ble_eq_true rfl) dX2_againMinute_30 (fun r_30 w_30 h_30 => ?_)
    obtain ⟨rfl, rfl⟩ := h_30
    refine jr_iret rfl dX2_againMinute_33 ?_
    refine hQ _ _ ⟨?_, hS2⟩
    simp only [Int32.reduceToInt]
    rw [hag, clipF]
    have e14 : (14 : Int32).toInt = 14 := rfl
    by_cases c1 : v.toInt < 14
    · rw [if_pos c1]
      by_cases c2 : 1 < v.toInt
      · rw [if_pos c2, if_neg (by omega), if_neg (by omega), eq_i, i_nI (by have : v.toNatClampNeg = v.toInt.toNat := rfl; omega)]
        have : v.toNatClampNeg = v.toInt.toNat := rfl
        omega
      · rw [if_neg c2]
        by_cases c3 : v.toInt < 1
        · rw [if_pos c3]; rfl
        · rw [if_neg c3, if_neg (by omega), show v.toNatClampNeg = 1 by have : v.toNatClampNeg = v.toInt.toNat := rfl; omega]; rfl
    · rw [if_neg c1, if_pos (by rw [e14]; omega), if_neg (by omega)]
      by_cases c3 : 14 < v.toInt
      · rw [if_pos c3]; rfl
      · rw [if_neg c3, show v.toNatClampNeg = 14 by have : v.toNatClampNeg = v.toInt.toNat := rfl; omega]; rfl
theorem sw_sk {kd ow ag : Nat} {f : Nat → Nat} (h1 : (kd = 2 ∨ kd = 4) → 1 ≤ ow % 60 → ow % 60 ≤ 14 → ag = f (hrF ow)) (h2 : (kd = 2 ∨ kd = 4) → 15 ≤ ow % 60 → ag = 1) : swF kd (hrF ow) (ow % 60) ag = skF kd f ow := by
  unfold swF skF
  by_cases c1 : ow % 60 = 0
  · rw [if_pos c1, if_pos c1]
  · rw [if_neg c1, if_neg c1]
    by_cases c2 : kd = 1 ∨ kd = 3
    · rw [if_pos c2, if_pos c2]
    · rw [if_neg c2, if_neg c2]
      by_cases c3 : kd = 2 ∨ kd = 4
      · rw [if_pos c3, if_pos c3]
        by_cases c4 : ow % 60 < 15
        · rw [h1 c3 (by omega) (by omega)]
          by_cases c5 : ow % 60 = f (hrF ow)
          · rw [if_pos c5, if_pos ⟨c4, c5⟩]
          · rw [if_neg c5, if_neg (fun h => c5 h.2)]
        · rw [h2 c3 (by omega), if_neg (by omega), if_neg (by omega)]
      · rw [if_neg c3, if_neg c3]
theorem c_strokesAt (g : Cx) (w : Wd) (hw : Wf w) (a : Nat) (hA : NA a) (s : Nat → Int32) (hG : Gd s) (hN : NR w a s) (c kd o tn : Nat) (hC : Ck w c kd o tn) (t : Nat) (ht : t < 720) : CI g yX2_strokesAt cX2_strokesAt 8 (some .int) 4 0 0 [.ref (gb g + a), .ref (gb g + c), .int (nI t)] w (fun r w' => r = nI (stkW s kd o tn t) ∧ Sm scK w w') := by
  obtain ⟨⟨hc98, hck⟩, hkd, hof, htn, hk5, ho59, ht9⟩ := id hC
  obtain ⟨ow, how⟩ : ∃ x, x = owF o t := ⟨_, rfl⟩
  have hlt : ow < 720 := by rw [how]; exact ow_lt _ _
  have eow : (nI ow).toInt = (ow : Int) := i_nI (by omega)
  have hmin : nI ow - nI ow / 60 * 60 = nI (ow % 60) := pk_rem (by omega) (by decide) (by decide)
  have emin : (nI (ow % 60)).toInt = ((ow % 60 : Nat) : Int) := i_nI (by omega)
  have hhr := hr_rng hlt
  refine CI.of (own := RX2) (nm := "strokesAt") (lv := [some (.ref (gb g + a)), some (.ref (gb g + c)), some (.int (nI t)), none, none, none, none, none]) (by decide) rfl rfl (Nat.le_of_ble_eq_true rfl) rfl (fun Q hQ => ?_)
  have K87 : ∀ (w1 : Wd) (ag : Nat) (i6 : Int32), Sm scK w w1 → ag < 1000 → swF kd (hrF ow) (ow % 60) ag = stkW s kd o tn t → RR g RX2 cX2_strokesAt 8 (some .int) "strokesAt" 4 0 0 0 0 87 [some (.ref (gb g + a)), some (.ref (gb g + c)), some (.int (nI t)), some (.int (nI ow)), some (.int (nI (hrF ow))), some (.int (nI (ow % 60))), some (.int i6), none] [.int (nI ag)] w1 Q := by
    intro w1 ag i6 hS hag e
    have hC1 := hC.sm hS (scK_n hc98)
    refine jr_istore_7 dX2_strokesAt_87 (by decide) rfl ?_
    refine jr_aload_n dX2_strokesAt_89 rfl ?_
    refine gfX2_77 dX2_strokesAt_90 hC1.1.2 ?_
    rw [hC1.2.1]
    refine jr_iload dX2_strokesAt_93 rfl ?_
    refine jr_iload dX2_strokesAt_95 rfl ?_
    refine jr_iload dX2_strokesAt_97 rfl ?_
    refine jc_SNi (c_sWithin g _ kd _ _ _ hk5 hhr.2 (by omega) hag) lkX2_118 rfl rfl (Nat.le_of_ble_eq_true rfl) (Nat.le_of_ble_eq_true rfl) dX2_strokesAt_99 (fun r_99 w_99 h_99 => ?_)
    obtain ⟨rfl, rfl⟩ := h_99
    refine jr_iret rfl dX2_strokesAt_102 ?_
    exact hQ _ _ ⟨by rw [e], hS⟩
  have K28 : RR g RX2 cX2_strokesAt 8 (some .int) "strokesAt" 4 0 0 0 0 28 [some (.ref (gb g + a)), some (.ref (gb g + c)), some (.int (nI t)), some (.int (nI ow)), none, none, none, none] [.int (nI (hrF ow))] w Q := by
    have hrg := agW_rng s o tn (hrF ow)
    by_cases hq : (kd = 2 ∨ kd = 4) ∧ 1 ≤ ow % 60 ∧ ow % 60 ≤ 14
    · have e := sw_sk (kd := kd) (ow := ow) (ag := agW s o tn (hrF ow)) (f := agW s o tn) (fun _ _ _ => rfl) (fun _ h => by omega)
      refine jr_istore_4 dX2_strokesAt_28 (by decide) rfl ?_
      refine jr_iload_n dX2_strokesAt_30 rfl ?_
      refine jr_bipush (60) dX2_strokesAt_31 (by decide) ?_
      refine jr_irem dX2_strokesAt_33 (by decide) ?_
      rw [hmin]
      refine jr_istore_5 dX2_strokesAt_34 (by decide) rfl ?_
      refine jr_aload_n dX2_strokesAt_36 rfl ?_
      refine gfX2_77 dX2_strokesAt_37 hck ?_
      rw [hkd]
      refine jr_iconst (2) dX2_strokesAt_40 (by decide) ?_
      refine jc_SNi (c_isUnder g _ kd 2 hk5 (by decide)) lkX2_111 rfl rfl (Nat.le_of_ble_eq_true rfl) (Nat.le_of_ble_eq_true rfl) dX2_strokesAt_41 (fun r_41 w_41 h_41 => ?_)
      obtain ⟨rfl, rfl⟩ := h_41
      refine jr_if_eq 64 dX2_strokesAt_44 (by decide) (fun c_44 => absurd c_44 (jb_1.mpr (by omega))) (fun c_44 => ?_)
      refine jr_iload dX2_strokesAt_47 rfl ?_
      refine jr_iconst (1) dX2_strokesAt_49 (by decide) ?_
      refine jr_icmp_lt 64 dX2_strokesAt_50 (by decide) (fun c_50 => absurd c_50 (by rw [jlit 1]; exact nI_nlt hq.2.1 (by omega))) (fun c_50 => ?_)
      refine jr_iload dX2_strokesAt_53 rfl ?_
      refine jr_bipush (14) dX2_strokesAt_55 (by decide) ?_
      refine jr_icmp_gt 64 dX2_strokesAt_57 (by decide) (fun c_57 => absurd c_57 (by rw [jlit 14]; exact nI_nlt hq.2.2 (by decide))) (fun c_57 => ?_)
      refine jr_iconst (1) dX2_strokesAt_60 (by decide) ?_
      refine jr_goto 65 dX2_strokesAt_61 (by decide) ?_
      refine jr_istore_6 dX2_strokesAt_65 (by decide) rfl ?_
      refine jr_iload dX2_strokesAt_67 rfl ?_
      refine jr_if_eq 86 dX2_strokesAt_69 (by decide) (fun c_69 => absurd c_69 (by decide)) (fun c_69 => ?_)
      refine jr_aload_n dX2_strokesAt_72 rfl ?_
      refine jr_aload_n dX2_strokesAt_73 rfl ?_
      refine jr_aload_n dX2_strokesAt_74 rfl ?_
      refine gfX2_80 dX2_strokesAt_75 hck ?_
      rw [hof]
      refine jr_iload dX2_strokesAt_78 rfl ?_
      refine jc_Vi (c_againMinute g _ hw a hA s hG hN c kd o tn hC o _) lkX2_114 (hA.n hw) rfl rfl (Nat.le_of_ble_eq_true rfl) (Nat.le_of_ble_eq_true rfl) dX2_strokesAt_80 (fun r_80 w_80 h_80 => ?_)
      obtain ⟨rfl, hS⟩ := h_80
      refine jr_goto 87 dX2_strokesAt_83 (by decide) ?_
      exact K87 _ _ _ hS (by omega) (by rw [e, how]; rfl)
    · have e := sw_sk (kd := kd) (ow := ow) (ag := 1) (f := agW s o tn) (fun h1 h2 h3 => absurd ⟨h1, h2, h3⟩ hq) (fun _ _ => rfl)
      refine jr_istore_4 dX2_strokesAt_28 (by decide) rfl ?_
      refine jr_iload_n dX2_strokesAt_30 rfl ?_
      refine jr_bipush (60) dX2_strokesAt_31 (by decide) ?_
      refine jr_irem dX2_strokesAt_33 (by decide) ?_
      rw [hmin]
      refine jr_istore_5 dX2_strokesAt_34 (by decide) rfl ?_
      refine jr_aload_n dX2_strokesAt_36 rfl ?_
      refine gfX2_77 dX2_strokesAt_37 hck ?_
      rw [hkd]
      refine jr_iconst (2) dX2_strokesAt_40 (by decide) ?_
      refine jc_SNi (c_isUnder g _ kd 2 hk5 (by decide)) lkX2_111 rfl rfl (Nat.le_of_ble_eq_true rfl) (Nat.le_of_ble_eq_true rfl) dX2_strokesAt_41 (fun r_41 w_41 h_41 => ?_)
      obtain ⟨rfl, rfl⟩ := h_41
      refine jr_if_eq 64 dX2_strokesAt_44 (by decide) (fun c_44 => ?_) (fun c_44 => ?_)
      · rw [jb_0] at c_44
        refine jr_iconst (0) dX2_strokesAt_64 (by decide) ?_
        refine jr_istore_6 dX2_strokesAt_65 (by decide) rfl ?_
        refine jr_iload dX2_strokesAt_67 rfl ?_
        refine jr_if_eq 86 dX2_strokesAt_69 (by decide) (fun c_69 => ?_) (fun c_69 => absurd (by decide) c_69)
        refine jr_iconst (1) dX2_strokesAt_86 (by decide) ?_
        exact K87 _ 1 _ Sm.rf (by omega) (by rw [e, how]; rfl)
      · rw [jb_1] at c_44
        refine jr_iload dX2_strokesAt_47 rfl ?_
        refine jr_iconst (1) dX2_strokesAt_49 (by decide) ?_
        refine jr_icmp_lt 64 dX2_strokesAt_50 (by decide) (fun c_50 => ?_) (fun c_50 => ?_)
        · simp only [lt_i, le_i, eq_i, Int32.reduceToInt] at c_50
          refine jr_iconst (0) dX2_strokesAt_64 (by decide) ?_
          refine jr_istore_6 dX2_strokesAt_65 (by decide) rfl ?_
          refine jr_iload dX2_strokesAt_67 rfl ?_
          refine jr_if_eq 86 dX2_strokesAt_69 (by decide) (fun c_69 => ?_) (fun c_69 => absurd (by decide) c_69)
          refine jr_iconst (1) dX2_strokesAt_86 (by decide) ?_
          exact K87 _ 1 _ Sm.rf (by omega) (by rw [e, how]; rfl)
        · simp only [lt_i, le_i, eq_i, Int32.reduceToInt] at c_50
          refine jr_iload dX2_strokesAt_53 rfl ?_
          refine jr_bipush (14) dX2_strokesAt_55 (by decide) ?_
          refine jr_icmp_gt 64 dX2_strokesAt_57 (by decide) (fun c_57 => ?_) (fun c_57 => ?_)
          · simp only [lt_i, le_i, eq_i, Int32.reduceToInt] at c_57
            refine jr_iconst (0) dX2_strokesAt_64 (by decide) ?_
            refine jr_istore_6 dX2_strokesAt_65 (by decide) rfl ?_
            refine jr_iload dX2_strokesAt_67 rfl ?_
            refine jr_if_eq 86 dX2_strokesAt_69 (by decide) (fun c_69 => ?_) (fun c_69 => absurd (by decide) c_69)
            refine jr_iconst (1) dX2_strokesAt_86 (by decide) ?_
            exact K87 _ 1 _ Sm.rf (by omega) (by rw [e, how]; rfl)
          · simp only [lt_i, le_i, eq_i, Int32.reduceToInt] at c_57
            exfalso; omega
  refine jr_iload_n dX2_strokesAt_0 rfl ?_
  refine jr_aload_n dX2_strokesAt_1 rfl ?_
  refine gfX2_80 dX2_strokesAt_2 hck ?_
  rw [hof]
  refine jr_isub dX2_strokesAt_5 ?_
  refine jr_sipush (720) dX2_strokesAt_6 (by decide) ?_
  refine jc_Si (c_fmod g _ _ (t + 720 - o) (by rw [pk_sub_toInt (by omega) (by omega)]; omega)) lkX2_105 rfl rfl (Nat.le_of_ble_eq_true rfl) (Nat.le_of_ble_eq_true rfl) dX2_strokesAt_9 (fun r_9 w_9 h_9 => ?_)
  obtain ⟨rfl, rfl⟩ := h_9
  rw [show nI ((t + 720 - o) % 720) = nI ow by rw [how]; rfl]
  refine jr_istore_3 dX2_strokesAt_12 (by decide) rfl ?_
  refine jr_iload_n dX2_strokesAt_13 rfl ?_
  refine jr_bipush (60) dX2_strokesAt_14 (by decide) ?_
  refine jr_icmp_ge 24 dX2_strokesAt_16 (by decide) (fun c_16 => ?_) (fun c_16 => ?_)
  · simp only [lt_i, le_i, eq_i, Int32.reduceToInt] at c_16
    refine jr_iload_n dX2_strokesAt_24 rfl ?_
    refine jr_bipush (60) dX2_strokesAt_25 (by decide) ?_
    refine jr_idiv dX2_strokesAt_27 (by decide) ?_
    first | (rw [show (12 : Int32) = nI (hrF ow) by rw [hrF, if_pos (by omega)]; rfl]; exact K28) | (rw [show nI ow / 60 = nI (hrF ow) by rw [hrF, if_neg (by omega)]; exact pk_div (by omega) (by decide) (by decide)]; exact K28)
  · simp only [lt_i, le_i, eq_i, Int32.reduceToInt] at c_16
    refine jr_bipush (12) dX2_strokesAt_19 (by decide) ?_
    refine jr_goto 28 dX2_strokesAt_21 (by decide) ?_
    first | (rw [show (12 : Int32) = nI (hrF ow) by rw [hrF, if_pos (by omega)]; rfl]; exact K28) | (rw [show nI ow / 60 = nI (hrF ow) by rw [hrF, if_neg (by omega)]; exact pk_div (by omega) (by decide) (by decide)]; exact K28)
theorem c_totalAt (g : Cx) (w : Wd) (hw : Wf w) (a : Nat) (hA : NA a) (s : Nat → Int32) (hG : Gd s) (hN : NR w a s) (t : Nat) (ht : t < 720) : CI g yX2_totalAt cX2_totalAt 4 (some .int) 5 0 0 [.ref (gb g + a), .int (nI t)] w (fun r w' => r = nI (totF s t (sN s 0)) ∧ Sm scK w w') := by
  have h0 : Nb s 0 6 := hG.1
  have h6 := h0.2
  have hC : ClkOk s := hG.2.2.2.2.2.2.1
  refine CI.of (own := RX2) (nm := "totalAt") (lv := [some (.ref (gb g + a)), some (.int (nI t)), none, none]) (by decide) rfl rfl (Nat.le_of_ble_eq_true rfl) rfl (fun Q hQ => ?_)
  have L : ∀ (f k : Nat) (w1 : Wd), f + k = sN s 0 → Sm scK w w1 → RR g RX2 cX2_totalAt 4 (some .int) "totalAt" 5 0 0 0 0 4 [some (.ref (gb g + a)), some (.int (nI t)), some (.int (nI (totF s t k))), some (.int (nI k))] [] w1 Q := by
    intro f
    induction f with
    | zero =>
      intro k w1 hk hS
      have e : k = sN s 0 := by omega
      subst e
      have hw1 := hS.wf hw
      have hN1 := hN.k hA hS
      refine jr_iload_n dX2_totalAt_4 rfl ?_
      refine jr_aload_n dX2_totalAt_5 rfl ?_
      refine gfX2_17 dX2_totalAt_6 (hA.n hw1) ?_
      refine jr_icmp_ge 32 dX2_totalAt_9 (by decide) (fun c_9 => ?_) (fun c_9 => absurd (by rw [hN1.1.1, h0.1]; exact Int32.le_refl _) c_9)
      refine jr_iload_n dX2_totalAt_32 rfl ?_
      refine jr_iret rfl dX2_totalAt_33 ?_
      exact hQ _ _ ⟨rfl, hS⟩
    | succ f ih =>
      intro k w1 hk hS
      have hw1 := hS.wf hw
      have hN1 := hN.k hA hS
      refine jr_iload_n dX2_totalAt_4 rfl ?_
      refine jr_aload_n dX2_totalAt_5 rfl ?_
      refine gfX2_17 dX2_totalAt_6 (hA.n hw1) ?_
      refine jr_icmp_ge 32 dX2_totalAt_9 (by decide) (fun c_9 => absurd c_9 (by rw [hN1.1.1, h0.1]; exact nI_ge (by omega) (by omega))) (fun c_9 => ?_)
      refine jr_iload_n dX2_totalAt_12 rfl ?_
      refine jr_aload_n dX2_totalAt_13 rfl ?_
      refine jr_aload_n dX2_totalAt_14 rfl ?_
      refine gfX2_11 (a + 1) dX2_totalAt_15 (hA.n hw1) (hA.rc hw1) ?_
      refine jr_iload_n dX2_totalAt_18 rfl ?_
      refine jr_aald k (hA.c hw1) (by decide) rfl ⟨by omega, by decide⟩ (by rw [hA.rk hw1 (k := k) (by omega), jrf_s]) dX2_totalAt_19 ?_
      refine jr_iload_n dX2_totalAt_20 rfl ?_
      refine jc_Vi (c_strokesAt g _ hw1 a hA s hG hN1 _ _ _ _ (hN1.ck hA hw1 hC (k := k) (by omega)) t ht) lkX2_122 (hA.n hw1) rfl rfl (Nat.le_of_ble_eq_true rfl) (Nat.le_of_ble_eq_true rfl) dX2_totalAt_21 (fun r_21 w_21 h_21 => ?_)
      obtain ⟨rfl, hS2⟩ := h_21
      refine jr_iadd dX2_totalAt_24 ?_
      rw [nI_add]
      refine jr_istore_2 dX2_totalAt_25 (by decide) rfl ?_
      refine jr_iinc_3 (nI (k + 1)) dX2_totalAt_26 (inc1 k) (by decide) rfl ?_
      refine jr_goto 4 dX2_totalAt_29 (by decide) ?_
      exact ih (k + 1) _ (by omega) (hS.tr hS2)
  refine jr_iconst (0) dX2_totalAt_0 (by decide) ?_
  refine jr_istore_2 dX2_totalAt_1 (by decide) rfl ?_
  refine jr_iconst (0) dX2_totalAt_2 (by decide) ?_
  refine jr_istore_3 dX2_totalAt_3 (by decide) rfl ?_
  exact L _ 0 w rfl Sm.rf
theorem c_sOfAll (g : Cx) (w : Wd) (hw : Wf w) (a : Nat) (hA : NA a) (s : Nat → Int32) (hG : Gd s) (hN : NR w a s) (k : Nat) (hk : k < 6) : CI g yX2_strokesOfAllTimes cX2_strokesOfAllTimes 4 (some .int) 5 0 0 [.ref (gb g + a), .ref (gb g + (a + 5 + k))] w (fun r w' => r = nI (alS s k 720) ∧ Sm scK w w') := by
  have hC : ClkOk s := hG.2.2.2.2.2.2.1
  refine CI.of (own := RX2) (nm := "strokesOfAllTimes") (lv := [some (.ref (gb g + a)), some (.ref (gb g + (a + 5 + k))), none, none]) (by decide) rfl rfl (Nat.le_of_ble_eq_true rfl) rfl (fun Q hQ => ?_)
  have L : ∀ (f t : Nat) (w1 : Wd), f + t = 720 → Sm scK w w1 → RR g RX2 cX2_strokesOfAllTimes 4 (some .int) "strokesOfAllTimes" 5 0 0 0 0 4 [some (.ref (gb g + a)), some (.ref (gb g + (a + 5 + k))), some (.int (nI (alS s k t))), some (.int (nI t))] [] w1 Q := by
    intro f
    induction f with
    | zero =>
      intro t w1 ht hS
      have e : t = 720 := by omega
      subst e
      refine jr_iload_n dX2_strokesOfAllTimes_4 rfl ?_
      refine jr_sipush (720) dX2_strokesOfAllTimes_5 (by decide) ?_
      refine jr_icmp_ge 26 dX2_strokesOfAllTimes_8 (by decide) (fun c_8 => ?_) (fun c_8 => absurd (Int32.le_refl _) c_8)
      refine jr_iload_n dX2_strokesOfAllTimes_26 rfl ?_
      refine jr_iret rfl dX2_strokesOfAllTimes_27 ?_
      exact hQ _ _ ⟨rfl, hS⟩
    | succ f ih =>
      intro t w1 ht hS
      have hw1 := hS.wf hw
      have hN1 := hN.k hA hS
      refine jr_iload_n dX2_strokesOfAllTimes_4 rfl ?_
      refine jr_sipush (720) dX2_strokesOfAllTimes_5 (by decide) ?_
      refine jr_icmp_ge 26 dX2_strokesOfAllTimes_8 (by decide) (fun c_8 => absurd c_8 (by rw [jlit 720]; exact nI_ge (by omega) (by decide))) (fun c_8 => ?_)
      refine jr_iload_n dX2_strokesOfAllTimes_11 rfl ?_
      refine jr_aload_n dX2_strokesOfAllTimes_12 rfl ?_
      refine jr_aload_n dX2_strokesOfAllTimes_13 rfl ?_
      refine jr_iload_n dX2_strokesOfAllTimes_14 rfl ?_
      refine jc_Vi (c_strokesAt g _ hw1 a hA s hG hN1 _ _ _ _ (hN1.ck hA hw1 hC (k := k) hk) t (by omega)) lkX2_122 (hA.n hw1) rfl rfl (Nat.le_of_ble_eq_true rfl) (Nat.le_of_ble_eq_true rfl) dX2_strokesOfAllTimes_15 (fun r_15 w_15 h_15 => ?_)
      obtain ⟨rfl, hS2⟩ := h_15
      refine jr_iadd dX2_strokesOfAllTimes_18 ?_
      rw [nI_add]
      refine jr_istore_2 dX2_strokesOfAllTimes_19 (by decide) rfl ?_
      refine jr_iinc_3 (nI (t + 1)) dX2_strokesOfAllTimes_20 (inc1 t) (by decide) rfl ?_
      refine jr_goto 4 dX2_strokesOfAllTimes_23 (by decide) ?_
      exact ih (t + 1) _ (by omega) (hS.tr hS2)
  refine jr_iconst (0) dX2_strokesOfAllTimes_0 (by decide) ?_
  refine jr_istore_2 dX2_strokesOfAllTimes_1 (by decide) rfl ?_
  refine jr_iconst (0) dX2_strokesOfAllTimes_2 (by decide) ?_
  refine jr_istore_3 dX2_strokesOfAllTimes_3 (by decide) rfl ?_
  exact L _ 0 w rfl Sm.rf
theorem c_allows (g : Cx) (w : Wd) (hw : Wf w) (a : Nat) (hA : NA a) (s : Nat → Int32) (hG : Gd s) (hN : NR w a s) (m u : Nat) (hm : m < 100000) (hu : u < 100000) : CI g yX2_allows cX2_allows 4 (some .boolean) 1 0 0 [.ref (gb g + a), .int (nI m), .int (nI u)] w (fun r w' => r = jb (m ≤ u + (if 0 < sN s 7 then 1 else 0) ∧ (sN s 6 < 100 ∨ u ≤ m)) ∧ w = w') := by
  obtain ⟨-, -, -, h6, h7, -⟩ := id hG
  have h61 := h6.2
  have h71 := h7.2
  have e6 : (s 6).toInt = (sN s 6 : Int) := by rw [h6.1, i_nI (by omega)]
  have e7 : (s 7).toInt = (sN s 7 : Int) := by rw [h7.1, i_nI (by omega)]
  have em : (nI m).toInt = (m : Int) := i_nI (by omega)
  have eu : (nI u).toInt = (u : Int) := i_nI (by omega)
  have eu1 : (nI (u + 1)).toInt = ((u + 1 : Nat) : Int) := i_nI (by omega)
  refine CI.of (own := RX2) (nm := "allows") (lv := [some (.ref (gb g + a)), some (.int (nI m)), some (.int (nI u)), none]) (by decide) rfl rfl (Nat.le_of_ble_eq_true rfl) rfl (fun Q hQ => ?_)
  refine jr_aload_n dX2_allows_0 rfl ?_
  refine gfX2_24 dX2_allows_1 (hA.n hw) ?_
  rw [hN.1.2.2.1]
  refine jr_if_le 13 dX2_allows_4 (by decide) (fun c_4 => ?_) (fun c_4 => ?_)
  · simp only [lt_i, le_i, eq_i, Int32.reduceToInt] at c_4
    refine jr_iload_n dX2_allows_13 rfl ?_
    refine jr_istore_3 dX2_allows_14 (by decide) rfl ?_
    refine jr_iload_n dX2_allows_15 rfl ?_
    refine jr_iload_n dX2_allows_16 rfl ?_
    refine jr_icmp_gt 38 dX2_allows_17 (by decide) (fun c_17 => ?_) (fun c_17 => ?_)
    · simp only [lt_i, le_i, eq_i, Int32.reduceToInt] at c_17
      refine jr_iconst (0) dX2_allows_38 (by decide) ?_
      refine jr_zret rfl (by decide) dX2_allows_39 ?_
      first
      | (rw [if_neg (by omega)] at hQ; first | exact hQ _ _ ⟨jb_t' (by omega), rfl⟩ | exact hQ _ _ ⟨jb_f' (by omega), rfl⟩)
      | (rw [if_pos (by omega)] at hQ; first | exact hQ _ _ ⟨jb_t' (by omega), rfl⟩ | exact hQ _ _ ⟨jb_f' (by omega), rfl⟩)
    · simp only [lt_i, le_i, eq_i, Int32.reduceToInt] at c_17
      refine jr_aload_n dX2_allows_20 rfl ?_
      refine gfX2_21 dX2_allows_21 (hA.n hw) ?_
      rw [hN.1.2.1]
      refine jr_bipush (100) dX2_allows_24 (by decide) ?_
      refine jr_icmp_lt 34 dX2_allows_26 (by decide) (fun c_26 => ?_) (fun c_26 => ?_)
      · simp only [lt_i, le_i, eq_i, Int32.reduceToInt] at c_26
        refine jr_iconst (1) dX2_allows_34 (by decide) ?_
        refine jr_goto 39 dX2_allows_35 (by decide) ?_
        refine jr_zret rfl (by decide) dX2_allows_39 ?_
        first
        | (rw [if_neg (by omega)] at hQ; first | exact hQ _ _ ⟨jb_t' (by omega), rfl⟩ | exact hQ _ _ ⟨jb_f' (by omega), rfl⟩)
        | (rw [if_pos (by omega)] at hQ; first | exact hQ _ _ ⟨jb_t' (by omega), rfl⟩ | exact hQ _ _ ⟨jb_f' (by omega), rfl⟩)
      · simp only [lt_i, le_i, eq_i, Int32.reduceToInt] at c_26
        refine jr_iload_n dX2_allows_29 rfl ?_
        refine jr_iload_n dX2_allows_30 rfl ?_
        refine jr_icmp_lt 38 dX2_allows_31 (by decide) (fun c_31 => ?_) (fun c_31 => ?_)
        · simp only [lt_i, le_i, eq_i, Int32.reduceToInt] at c_31
          refine jr_iconst (0) dX2_allows_38 (by decide) ?_
          refine jr_zret rfl (by decide) dX2_allows_39 ?_
          first
          | (rw [if_neg (by omega)] at hQ; first | exact hQ _ _ ⟨jb_t' (by omega), rfl⟩ | exact hQ _ _ ⟨jb_f' (by omega), rfl⟩)
          | (rw [if_pos (by omega)] at hQ; first | exact hQ _ _ ⟨jb_t' (by omega), rfl⟩ | exact hQ _ _ ⟨jb_f' (by omega), rfl⟩)
        · simp only [lt_i, le_i, eq_i, Int32.reduceToInt] at c_31
          refine jr_iconst (1) dX2_allows_34 (by decide) ?_
          refine jr_goto 39 dX2_allows_35 (by decide) ?_
          refine jr_zret rfl (by decide) dX2_allows_39 ?_
          first
          | (rw [if_neg (by omega)] at hQ; first | exact hQ _ _ ⟨jb_t' (by omega), rfl⟩ | exact hQ _ _ ⟨jb_f' (by omega), rfl⟩)
          | (rw [if_pos (by omega)] at hQ; first | exact hQ _ _ ⟨jb_t' (by omega), rfl⟩ | exact hQ _ _ ⟨jb_f' (by omega), rfl⟩)
  · simp only [lt_i, le_i, eq_i, Int32.reduceToInt] at c_4
    refine jr_iload_n dX2_allows_7 rfl ?_
    refine jr_iconst (1) dX2_allows_8 (by decide) ?_
    refine jr_iadd dX2_allows_9 ?_
    rw [jlit 1, nI_add]
    refine jr_goto 14 dX2_allows_10 (by decide) ?_
    refine jr_istore_3 dX2_allows_14 (by decide) rfl ?_
    refine jr_iload_n dX2_allows_15 rfl ?_
    refine jr_iload_n dX2_allows_16 rfl ?_
    refine jr_icmp_gt 38 dX2_allows_17 (by decide) (fun c_17 => ?_) (fun c_17 => ?_)
    · simp only [lt_i, le_i, eq_i, Int32.reduceToInt] at c_17
      refine jr_iconst (0) dX2_allows_38 (by decide) ?_
      refine jr_zret rfl (by decide) dX2_allows_39 ?_
      first
      | (rw [if_neg (by omega)] at hQ; first | exact hQ _ _ ⟨jb_t' (by omega), rfl⟩ | exact hQ _ _ ⟨jb_f' (by omega), rfl⟩)
      | (rw [if_pos (by omega)] at hQ; first | exact hQ _ _ ⟨jb_t' (by omega), rfl⟩ | exact hQ _ _ ⟨jb_f' (by omega), rfl⟩)
    · simp only [lt_i, le_i, eq_i, Int32.reduceToInt] at c_17
      refine jr_aload_n dX2_allows_20 rfl ?_
      refine gfX2_21 dX2_allows_21 (hA.n hw) ?_
      rw [hN.1.2.1]
      refine jr_bipush (100) dX2_allows_24 (by decide) ?_
      refine jr_icmp_lt 34 dX2_allows_26 (by decide) (fun c_26 => ?_) (fun c_26 => ?_)
      · simp only [lt_i, le_i, eq_i, Int32.reduceToInt] at c_26
        refine jr_iconst (1) dX2_allows_34 (by decide) ?_
        refine jr_goto 39 dX2_allows_35 (by decide) ?_
        refine jr_zret rfl (by decide) dX2_allows_39 ?_
        first
        | (rw [if_neg (by omega)] at hQ; first | exact hQ _ _ ⟨jb_t' (by omega), rfl⟩ | exact hQ _ _ ⟨jb_f' (by omega), rfl⟩)
        | (rw [if_pos (by omega)] at hQ; first | exact hQ _ _ ⟨jb_t' (by omega), rfl⟩ | exact hQ _ _ ⟨jb_f' (by omega), rfl⟩)
      · simp only [lt_i, le_i, eq_i, Int32.reduceToInt] at c_26
        refine jr_iload_n dX2_allows_29 rfl ?_
        refine jr_iload_n dX2_allows_30 rfl ?_
        refine jr_icmp_lt 38 dX2_allows_31 (by decide) (fun c_31 => ?_) (fun c_31 => ?_)
        · simp only [lt_i, le_i, eq_i, Int32.reduceToInt] at c_31
          refine jr_iconst (0) dX2_allows_38 (by decide) ?_
          refine jr_zret rfl (by decide) dX2_allows_39 ?_
          first
          | (rw [if_neg (by omega)] at hQ; first | exact hQ _ _ ⟨jb_t' (by omega), rfl⟩ | exact hQ _ _ ⟨jb_f' (by omega), rfl⟩)
          | (rw [if_pos (by omega)] at hQ; first | exact hQ _ _ ⟨jb_t' (by omega), rfl⟩ | exact hQ _ _ ⟨jb_f' (by omega), rfl⟩)
        · simp only [lt_i, le_i, eq_i, Int32.reduceToInt] at c_31
          refine jr_iconst (1) dX2_allows_34 (by decide) ?_
          refine jr_goto 39 dX2_allows_35 (by decide) ?_
          refine jr_zret rfl (by decide) dX2_allows_39 ?_
          first
          | (rw [if_neg (by omega)] at hQ; first | exact hQ _ _ ⟨jb_t' (by omega), rfl⟩ | exact hQ _ _ ⟨jb_f' (by omega), rfl⟩)
          | (rw [if_pos (by omega)] at hQ; first | exact hQ _ _ ⟨jb_t' (by omega), rfl⟩ | exact hQ _ _ ⟨jb_f' (by omega), rfl⟩)
