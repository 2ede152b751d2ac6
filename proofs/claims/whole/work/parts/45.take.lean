-- nights of the class: one takes another's place; a text is added
def Sq (S P : Nat → Prop) (w w' : Wd) : Prop := wn w' = wn w ∧ wsh w' = wsh w ∧ (∀ i, ¬ S i → wI w' i = wI w i) ∧ ∀ i, ¬ P i → wF w' i = wF w i
theorem Sq.rf {S P : Nat → Prop} {w : Wd} : Sq S P w w := ⟨rfl, rfl, fun _ _ => rfl, fun _ _ => rfl⟩
theorem Sq.tr {S P : Nat → Prop} {w w1 w2 : Wd} (h1 : Sq S P w w1) (h2 : Sq S P w1 w2) : Sq S P w w2 :=
  ⟨h2.1.trans h1.1, h2.2.1.trans h1.2.1, fun i hi => (h2.2.2.1 i hi).trans (h1.2.2.1 i hi), fun i hi => (h2.2.2.2 i hi).trans (h1.2.2.2 i hi)⟩
theorem Sq.mono {S P S' P' : Nat → Prop} {w w1 : Wd} (h : Sq S P w w1) (hs : ∀ i, S i → S' i) (hp : ∀ i, P i → P' i) : Sq S' P' w w1 :=
  ⟨h.1, h.2.1, fun i hi => h.2.2.1 i (fun e => hi (hs i e)), fun i hi => h.2.2.2 i (fun e => hi (hp i e))⟩
theorem Sq.K {S P : Nat → Prop} {w w1 : Wd} (h : Sq S P w w1) {a kd n : Nat} : jK w1 a kd n ↔ jK w a kd n := by
  unfold jK
  rw [h.1, h.2.1]
theorem Sq.wf {S P : Nat → Prop} {w w1 : Wd} (h : Sq S P w w1) (hw : Wf w) (hp : ∀ i, P i → ∀ k, RF i k = none) : Wf w1 := by
  refine ⟨fun a kd n e => h.K.mpr (hw.k e), fun a k b e => ?_⟩
  by_cases hP : P a
  · rw [hp a hP k] at e
    cases e
  · rw [h.2.2.2 a hP]
    exact hw.f e
theorem Sm.sq {S P : Nat → Prop} {w w1 : Wd} (h : Sm S w w1) : Sq S P w w1 := by
  obtain ⟨J, rfl, hJ⟩ := h
  exact ⟨rfl, rfl, hJ, fun _ _ => rfl⟩
theorem Sq.sR {S P : Nat → Prop} {w : Wd} {a : Nat} {f : Nat → Int32} (ha : S a) : Sq S P w (sR w a f) := (Sm.sR ha).sq
theorem Sq.sP {S P : Nat → Prop} {w : Wd} {a : Nat} {f : Nat → Option Nat} (ha : P a) : Sq S P w (sP w a f) :=
  ⟨rfl, rfl, fun _ _ => rfl, fun i hi => wF_sP_n w (fun e => hi (by rw [e]; exact ha)) f⟩
theorem sP_sP (w : Wd) (a : Nat) (f f' : Nat → Option Nat) : sP (sP w a f) a f' = sP w a f' := by
  unfold sP
  congr 3
  funext i
  by_cases h : i = a
  · rw [if_pos h, if_pos h]
  · rw [if_neg h, if_neg h]
    exact if_neg h
theorem sP_id (w : Wd) (c : Nat) : sP w c (wF w c) = w := by
  show (w.1, w.2.1, w.2.2.1, (fun i => if i = c then w.2.2.2 c else w.2.2.2 i)) = w
  have e : (fun i => if i = c then w.2.2.2 c else w.2.2.2 i) = w.2.2.2 := by
    funext i
    by_cases h : i = c
    · rw [if_pos h, h]
    · rw [if_neg h]
  rw [e]
theorem uF_s (f : Nat → Option Nat) (k : Nat) (x : Option Nat) : uF f k x k = x := if_pos rfl
theorem uF_n (f : Nat → Option Nat) {k j : Nat} (x : Option Nat) (h : j ≠ k) : uF f k x j = f j := if_neg h
theorem RF_txt {a : Nat} (h : NA a) (k : Nat) : RF (a + 3) k = none := by
  rcases h with rfl | rfl | rfl <;> rfl
theorem NR.sq {w w' : Wd} {a : Nat} {s : Nat → Int32} {S P : Nat → Prop} (h : NR w a s) (hS : Sq S P w w') (hn : ∀ i, (a ≤ i ∧ i ≤ a + 10) ∨ (98 ≤ i ∧ ¬ i % 3 = 1) → ¬ S i) (hp : ∀ i, i = a + 3 ∨ 98 ≤ i → ¬ P i) : NR w' a s := by
  obtain ⟨h1, h2, h3, h4, h5⟩ := h
  refine ⟨?_, ?_, ?_, ?_, ?_⟩
  · rw [hS.2.2.1 a (hn a (by omega))]; exact h1
  · rw [hS.2.2.1 _ (hn (a + 2) (by omega))]; exact h2
  · intro k hk
    rw [hS.2.2.1 _ (hn (a + 5 + k) (by omega))]; exact h3 k hk
  · rw [hS.2.2.1 _ (hn (a + 4) (by omega))]; exact h4
  · intro t ht
    obtain ⟨b, hb1, ⟨h0, h0'⟩, k1, k2, k3, k4, k5, k6, k7, k8⟩ := h5 t ht
    have e1 : wI w' b = wI w b := hS.2.2.1 b (hn b (by omega))
    have e2 : wI w' (b + 1) = wI w (b + 1) := hS.2.2.1 (b + 1) (hn (b + 1) (by omega))
    have e3 : wF w' b = wF w b := hS.2.2.2 b (hp b (by omega))
    refine ⟨b, by rw [hS.2.2.2 _ (hp (a + 3) (by omega))]; exact hb1, ⟨h0, h0'⟩, hS.K.mpr k1, hS.K.mpr k2, hS.K.mpr k3, by rw [e3]; exact k4, by rw [e3]; exact k5, by rw [e1]; exact k6, by rw [e1]; exact k7, fun k hk => by rw [e2]; exact k8 k hk⟩
/-- the night a has become what the night b was -/
def CopyF (w w' : Wd) (a b : Nat) : Prop :=
  (∀ j, (1 ≤ j ∧ j ≤ 8) ∨ j = 10 ∨ j = 12 → wI w' a j = wI w b j) ∧ (∀ j, j < 12 → wI w' (a + 2) j = wI w (b + 2) j) ∧ (∀ k, k < 6 → ∀ j, j < 3 → wI w' (a + 5 + k) j = wI w (b + 5 + k) j) ∧
  (∀ q, q < 3 → wI w' (a + 4) q = wI w (b + 4) q) ∧ (∀ t, t < 14 → wF w' (a + 3) t = wF w (b + 3) t) ∧ Sq (fun i => a ≤ i ∧ i ≤ a + 10) (fun i => i = a + 3) w w'
theorem CopyF.nr {w w' : Wd} {a b : Nat} {s : Nat → Int32} (h : CopyF w w' a b) (hA : NA a) (h14 : sN s 1 ≤ 14) (hN : NR w b s) : NR w' a s := by
  obtain ⟨c1, c2, c3, c4, c5, c6⟩ := h
  obtain ⟨⟨n1, n2, n3, n4, n5, n6, n7, n8, n10, n12⟩, n2', n3', n4', n5'⟩ := hN
  have hl := hA.le
  refine ⟨⟨by rw [c1 1 (by omega)]; exact n1, by rw [c1 2 (by omega)]; exact n2, by rw [c1 3 (by omega)]; exact n3, by rw [c1 4 (by omega)]; exact n4, by rw [c1 5 (by omega)]; exact n5, by rw [c1 6 (by omega)]; exact n6, by rw [c1 7 (by omega)]; exact n7, by rw [c1 8 (by omega)]; exact n8, by rw [c1 10 (by omega)]; exact n10, by rw [c1 12 (by omega)]; exact n12⟩, fun j hj => by rw [c2 j hj]; exact n2' j hj, fun k hk => ⟨by rw [c3 k hk 0 (by omega)]; exact (n3' k hk).1, by rw [c3 k hk 1 (by omega)]; exact (n3' k hk).2.1, by rw [c3 k hk 2 (by omega)]; exact (n3' k hk).2.2⟩, fun q hq => by rw [c4 q hq]; exact n4' q hq, fun t ht => ?_⟩
  obtain ⟨x, hb1, ⟨h0, h0'⟩, k1, k2, k3, k4, k5, k6, k7, k8⟩ := n5' t ht
  have e1 : wI w' x = wI w x := c6.2.2.1 x (by omega)
  have e2 : wI w' (x + 1) = wI w (x + 1) := c6.2.2.1 (x + 1) (by omega)
  have e3 : wF w' x = wF w x := c6.2.2.2 x (by omega)
  exact ⟨x, by rw [c5 t (by omega)]; exact hb1, ⟨h0, h0'⟩, c6.K.mpr k1, c6.K.mpr k2, c6.K.mpr k3, by rw [e3]; exact k4, by rw [e3]; exact k5, by rw [e1]; exact k6, by rw [e1]; exact k7, fun k hk => by rw [e2]; exact k8 k hk⟩
theorem CopyF.wf {w w' : Wd} {a b : Nat} (h : CopyF w w' a b) (hA : NA a) (hw : Wf w) : Wf w' := h.2.2.2.2.2.wf hw (fun i e k => by subst e; exact RF_txt hA k)
/-- the texts of a night are Texts -/
def TxW (w : Wd) (a : Nat) : Prop := ∀ t, t < 14 → wF w (a + 3) t = none ∨ ∃ c, wF w (a + 3) t = some c ∧ jK w c 5 0
theorem c_take (g : Cx) (w : Wd) (hw : Wf w) (a b : Nat) (hA : NA a) (hB : NA b) (hab : a ≠ b) (hT : TxW w b) : CV g yX2_take cX2_take 3 2 0 0 [.ref (gb g + a), .ref (gb g + b)] w (fun w' => CopyF w w' a b) := by
  have d1 : ∀ x y, x ≤ 10 → y ≤ 10 → a + x ≠ b + y := by
    intro x y hx hy
    rcases hA with rfl | rfl | rfl <;> rcases hB with rfl | rfl | rfl <;> first | exact absurd rfl hab | omega
  have hba := d1 0 0 (by omega) (by omega)
  refine CV.of (own := RX2) (nm := "take") (lv := [some (.ref (gb g + a)), some (.ref (gb g + b)), none]) (by decide) rfl rfl (Nat.le_of_ble_eq_true rfl) rfl (fun Q hQ => ?_)
  -- the end: textCount, lawNumbers
  have K142 : ∀ (w1 : Wd) (i2 : Option Value), Sq (fun i => a ≤ i ∧ i ≤ a + 10) (fun i => i = a + 3) w w1 → (∀ j, (1 ≤ j ∧ j ≤ 8) ∨ j = 10 → wI w1 a j = wI w b j) → (∀ j, j < 12 → wI w1 (a + 2) j = wI w (b + 2) j) → (∀ k, k < 6 → ∀ j, j < 3 → wI w1 (a + 5 + k) j = wI w (b + 5 + k) j) → (∀ t, t < 14 → wF w1 (a + 3) t = wF w (b + 3) t) → RR g RX2 cX2_take 3 none "take" 2 0 0 0 0 142 [some (.ref (gb g + a)), some (.ref (gb g + b)), i2] [] w1 Q := by
    intro w1 i2 hS q1 q2 q3 q5
    have hw1 : Wf w1 := hS.wf hw (fun i e k => by subst e; exact RF_txt hA k)
    have rb : wI w1 b = wI w b := hS.2.2.1 b (fun e => by have := d1 (b - a) 0 (by omega) (by omega); omega)
    have rl : wI w1 (b + 4) = wI w (b + 4) := hS.2.2.1 (b + 4) (fun e => by have := d1 (b + 4 - a) 4 (by omega) (by omega); omega)
    refine jr_aload_n dX2_take_142 rfl ?_
    refine jr_aload_n dX2_take_143 rfl ?_
    refine gfX2_55 dX2_take_144 (hB.n hw1) ?_
    rw [rb]
    refine pfX2_55 dX2_take_147 (hA.n hw1) ?_
    refine jr_aload_n dX2_take_150 rfl ?_
    refine gfX2_59 (b + 4) dX2_take_151 (hB.n hw1) (hB.rl hw1) ?_
    refine jr_iconst (0) dX2_take_154 (by decide) ?_
    refine jr_aload_n dX2_take_155 rfl ?_
    refine gfX2_59 (a + 4) dX2_take_156 (hA.n hw1) (hA.rl hw1) ?_
    refine jr_iconst (0) dX2_take_159 (by decide) ?_
    refine jr_iconst (3) dX2_take_160 (by decide) ?_
    refine jr_acopy 0 0 3 lkX2_67 ac_nat ac_stt ac_ini (hB.l hw1) (hA.l hw1) rfl rfl rfl ⟨by decide, by decide, by decide, by decide⟩ (Nat.le_of_ble_eq_true rfl) (Nat.le_of_ble_eq_true rfl) dX2_take_161 ?_
    refine jr_vret rfl dX2_take_164 ?_
    refine hQ _ ⟨?_, ?_, ?_, ?_, ?_, (hS.tr (Sq.sR (by omega))).tr (Sq.sR (by omega))⟩
    · intro j hj
      rw [wI_sR_n _ (by omega), wI_sR_s]
      by_cases e : j = 12
      · subst e; rw [pk_us]
      · rw [pk_un e]; exact q1 j (by omega)
    · intro j hj
      rw [wI_sR_n _ (by omega), wI_sR_n _ (by omega)]
      exact q2 j hj
    · intro k hk j hj
      rw [wI_sR_n _ (by omega), wI_sR_n _ (by omega)]
      exact q3 k hk j hj
    · intro q hq
      rw [wI_sR_s, pk_cpy_in (by omega) (by omega), wI_sR_n _ (fun e => by have := d1 0 4 (by omega) (by omega); omega), rl]
      congr 1
      omega
    · exact q5
  have K118 : ∀ (w0 : Wd), Sq (fun i => a ≤ i ∧ i ≤ a + 10) (fun i => i = a + 3) w w0 → (∀ j, (1 ≤ j ∧ j ≤ 8) ∨ j = 10 → wI w0 a j = wI w b j) → (∀ j, j < 12 → wI w0 (a + 2) j = wI w (b + 2) j) → (∀ k, k < 6 → ∀ j, j < 3 → wI w0 (a + 5 + k) j = wI w (b + 5 + k) j) → ∀ (f i : Nat) (F : Nat → Option Nat), f + i = 14 → (∀ t, t < i → F t = wF w (b + 3) t) → RR g RX2 cX2_take 3 none "take" 2 0 0 0 0 118 [some (.ref (gb g + a)), some (.ref (gb g + b)), some (.int (nI i))] [] (sP w0 (a + 3) F) Q := by
    intro w0 hS q1 q2 q3 f
    have hw0 : Wf w0 := hS.wf hw (fun i e k => by subst e; exact RF_txt hA k)
    induction f with
    | zero =>
      intro i F hi hF
      have e : i = 14 := by omega
      subst e
      have hS1 : Sq (fun i => a ≤ i ∧ i ≤ a + 10) (fun i => i = a + 3) w (sP w0 (a + 3) F) := hS.tr (Sq.sP rfl)
      refine jr_iload_n dX2_take_118 rfl ?_
      refine jr_bipush (14) dX2_take_119 (by decide) ?_
      refine jr_icmp_ge 142 dX2_take_121 (by decide) (fun c_121 => ?_) (fun c_121 => absurd (by decide) c_121)
      exact K142 _ _ hS1 q1 q2 q3 (fun t ht => by rw [wF_sP_s]; exact hF t ht)
    | succ f ih =>
      intro i F hi hF
      have hS1 : Sq (fun i => a ≤ i ∧ i ≤ a + 10) (fun i => i = a + 3) w (sP w0 (a + 3) F) := hS.tr (Sq.sP rfl)
      have hw1 : Wf (sP w0 (a + 3) F) := hS1.wf hw (fun i e k => by subst e; exact RF_txt hA k)
      have e3 : wF (sP w0 (a + 3) F) (b + 3) = wF w (b + 3) := hS1.2.2.2 (b + 3) (fun e => d1 3 3 (by omega) (by omega) e.symm)
      have h9 := ih (i + 1) (uF F i (wF w (b + 3) i)) (by omega) (fun t ht => by
        by_cases e : t = i
        · subst e; rw [uF_s]
        · rw [uF_n _ _ e]; exact hF t (by omega))
      rcases hT i (by omega) with e | ⟨c, e, hc⟩
      · rw [e] at h9
        refine jr_iload_n dX2_take_118 rfl ?_
        refine jr_bipush (14) dX2_take_119 (by decide) ?_
        refine jr_icmp_ge 142 dX2_take_121 (by decide) (fun c_121 => absurd c_121 (by rw [jlit 14]; exact nI_ge (by omega) (by decide))) (fun c_121 => ?_)
        refine jr_aload_n dX2_take_124 rfl ?_
        refine gfX2_51 (a + 3) dX2_take_125 (hA.n hw1) (hA.rt hw1) ?_
        refine jr_iload_n dX2_take_128 rfl ?_
        refine jr_aload_n dX2_take_129 rfl ?_
        refine gfX2_51 (b + 3) dX2_take_130 (hB.n hw1) (hB.rt hw1) ?_
        refine jr_iload_n dX2_take_133 rfl ?_
        refine jr_aald i (hB.t hw1) (by decide) rfl ⟨by omega, by decide⟩ (by rw [e3, e, jrf_n]) dX2_take_134 ?_
        refine jr_aastN_g (t0 := 5) i (hA.t hw1) (by decide) rfl rfl ⟨by omega, by decide⟩ dX2_take_135 ?_
        rw [sP_sP, wF_sP_s]
        refine jr_iinc_2 (nI (i + 1)) dX2_take_136 (inc1 i) (by decide) rfl ?_
        refine jr_goto 118 dX2_take_139 (by decide) ?_
        exact h9
      · rw [e] at h9
        have hc1 : jK (sP w0 (a + 3) F) c 5 0 := hS1.K.mpr hc
        refine jr_iload_n dX2_take_118 rfl ?_
        refine jr_bipush (14) dX2_take_119 (by decide) ?_
        refine jr_icmp_ge 142 dX2_take_121 (by decide) (fun c_121 => absurd c_121 (by rw [jlit 14]; exact nI_ge (by omega) (by decide))) (fun c_121 => ?_)
        refine jr_aload_n dX2_take_124 rfl ?_
        refine gfX2_51 (a + 3) dX2_take_125 (hA.n hw1) (hA.rt hw1) ?_
        refine jr_iload_n dX2_take_128 rfl ?_
        refine jr_aload_n dX2_take_129 rfl ?_
        refine gfX2_51 (b + 3) dX2_take_130 (hB.n hw1) (hB.rt hw1) ?_
        refine jr_iload_n dX2_take_133 rfl ?_
        refine jr_aald i (hB.t hw1) (by decide) rfl ⟨by omega, by decide⟩ (by rw [e3, e, jrf_s]) dX2_take_134 ?_
        refine jr_aast_g (t0 := 5) (ci := 5) i (hA.t hw1) hc1 (by decide) rfl rfl rfl ⟨by omega, by decide⟩ dX2_take_135 ?_
        rw [sP_sP, wF_sP_s]
        refine jr_iinc_2 (nI (i + 1)) dX2_take_136 (inc1 i) (by decide) rfl ?_
        refine jr_goto 118 dX2_take_139 (by decide) ?_
        exact h9
  have K118a : ∀ (w0 : Wd), Sq (fun i => a ≤ i ∧ i ≤ a + 10) (fun i => i = a + 3) w w0 → (∀ j, (1 ≤ j ∧ j ≤ 8) ∨ j = 10 → wI w0 a j = wI w b j) → (∀ j, j < 12 → wI w0 (a + 2) j = wI w (b + 2) j) → (∀ k, k < 6 → ∀ j, j < 3 → wI w0 (a + 5 + k) j = wI w (b + 5 + k) j) → RR g RX2 cX2_take 3 none "take" 2 0 0 0 0 118 [some (.ref (gb g + a)), some (.ref (gb g + b)), some (.int (nI 0))] [] w0 Q := by
    intro w0 z1 z2 z3 z4
    have h9 := K118 w0 z1 z2 z3 z4 14 0 (wF w0 (a + 3)) (by omega) (fun t ht => absurd ht (by omega))
    rw [sP_id] at h9
    exact h9
  have K29 : ∀ (w1 : Wd) (i2 : Option Value), Sm (fun i => a + 5 ≤ i ∧ i ≤ a + 10) w w1 → (∀ k, k < 6 → ∀ j, j < 3 → wI w1 (a + 5 + k) j = wI w (b + 5 + k) j) → RR g RX2 cX2_take 3 none "take" 2 0 0 0 0 29 [some (.ref (gb g + a)), some (.ref (gb g + b)), i2] [] w1 Q := by
    intro w1 i2 hS q3
    have hw1 := hS.wf hw
    have nb : ∀ y, y ≤ 10 → ¬ (a + 5 ≤ b + y ∧ b + y ≤ a + 10) := fun y hy e => by have := d1 (b + y - a) y (by omega) (by omega); omega
    have rb : wI w1 b = wI w b := hS.row (nb 0 (by omega))
    have rn : wI w1 (b + 2) = wI w (b + 2) := hS.row (nb 2 (by omega))
    have n0 : b ≠ a := Ne.symm hab
    have n2 : b ≠ a + 2 := fun e => by have := d1 2 0 (by omega) (by omega); omega
    have n3 : b + 2 ≠ a := fun e => by have := d1 0 2 (by omega) (by omega); omega
    have n4 : a ≠ a + 2 := by omega
    refine jr_aload_n dX2_take_29 rfl ?_
    refine jr_aload_n dX2_take_30 rfl ?_
    refine gfX2_17 dX2_take_31 (hB.n hw1) ?_
    rw [rb]
    refine pfX2_17 dX2_take_34 (hA.n hw1) ?_
    refine jr_aload_n dX2_take_37 rfl ?_
    refine jr_aload_n dX2_take_38 rfl ?_
    refine gfX2_21 dX2_take_39 (hB.n hw1) ?_
    rw [wI_sR_n _ n0, rb]
    refine pfX2_21 dX2_take_42 (hA.n hw1) ?_
    rw [sR_sR, wI_sR_s]
    refine jr_aload_n dX2_take_45 rfl ?_
    refine jr_aload_n dX2_take_46 rfl ?_
    refine gfX2_24 dX2_take_47 (hB.n hw1) ?_
    rw [wI_sR_n _ n0, rb]
    refine pfX2_24 dX2_take_50 (hA.n hw1) ?_
    rw [sR_sR, wI_sR_s]
    refine jr_aload_n dX2_take_53 rfl ?_
    refine jr_aload_n dX2_take_54 rfl ?_
    refine gfX2_27 dX2_take_55 (hB.n hw1) ?_
    rw [wI_sR_n _ n0, rb]
    refine pfX2_27 dX2_take_58 (hA.n hw1) ?_
    rw [sR_sR, wI_sR_s]
    refine jr_aload_n dX2_take_61 rfl ?_
    refine jr_aload_n dX2_take_62 rfl ?_
    refine gfX2_30 dX2_take_63 (hB.n hw1) ?_
    rw [wI_sR_n _ n0, rb]
    refine pfX2_30 dX2_take_66 (hA.n hw1) ?_
    rw [sR_sR, wI_sR_s]
    refine jr_aload_n dX2_take_69 rfl ?_
    refine jr_aload_n dX2_take_70 rfl ?_
    refine gfX2_33 dX2_take_71 (hB.n hw1) ?_
    rw [wI_sR_n _ n0, rb]
    refine pfX2_33 dX2_take_74 (hA.n hw1) ?_
    rw [sR_sR, wI_sR_s]
    refine jr_aload_n dX2_take_77 rfl ?_
    refine jr_aload_n dX2_take_78 rfl ?_
    refine gfX2_36 dX2_take_79 (hB.n hw1) ?_
    rw [wI_sR_n _ n0, rb]
    refine pfX2_36 dX2_take_82 (hA.n hw1) ?_
    rw [sR_sR, wI_sR_s]
    refine jr_aload_n dX2_take_85 rfl ?_
    refine jr_aload_n dX2_take_86 rfl ?_
    refine gfX2_39 dX2_take_87 (hB.n hw1) ?_
    rw [wI_sR_n _ n0, rb]
    refine pfX2_39 dX2_take_90 (hA.n hw1) ?_
    rw [sR_sR, wI_sR_s]
    refine jr_aload_n dX2_take_93 rfl ?_
    refine gfX2_42 (b + 2) dX2_take_94 (hB.n hw1) (hB.ro hw1) ?_
    refine jr_iconst (0) dX2_take_97 (by decide) ?_
    refine jr_aload_n dX2_take_98 rfl ?_
    refine gfX2_42 (a + 2) dX2_take_99 (hA.n hw1) (hA.ro hw1) ?_
    refine jr_iconst (0) dX2_take_102 (by decide) ?_
    refine jr_bipush (12) dX2_take_103 (by decide) ?_
    refine jr_acopy 0 0 12 lkX2_67 ac_nat ac_stt ac_ini (hB.o hw1) (hA.o hw1) rfl rfl rfl ⟨by decide, by decide, by decide, by decide⟩ (Nat.le_of_ble_eq_true rfl) (Nat.le_of_ble_eq_true rfl) dX2_take_105 ?_
    rw [wI_sR_n _ n3, rn]
    refine jr_aload_n dX2_take_108 rfl ?_
    refine jr_aload_n dX2_take_109 rfl ?_
    refine gfX2_46 dX2_take_110 (hB.n hw1) ?_
    rw [wI_sR_n _ n2, wI_sR_n _ n0, rb]
    refine pfX2_46 dX2_take_113 (hA.n hw1) ?_
    rw [wI_sR_n _ n4, wI_sR_s]
    refine jr_iconst (0) dX2_take_116 (by decide) ?_
    refine jr_istore_2 dX2_take_117 (by decide) rfl ?_
    refine K118a _ ?_ ?_ ?_ ?_
    · exact ((Sm.sq (hS.mono (fun i h => (by omega)))).tr (Sq.sR (by omega))).tr ((Sq.sR (by omega)).tr (Sq.sR (by omega)))
    · intro j hj
      rw [wI_sR_s]
      have hj2 : j = 1 ∨ j = 2 ∨ j = 3 ∨ j = 4 ∨ j = 5 ∨ j = 6 ∨ j = 7 ∨ j = 8 ∨ j = 10 := by omega
      rcases hj2 with rfl | rfl | rfl | rfl | rfl | rfl | rfl | rfl | rfl <;> simp (config := { decide := true }) only [upd, if_true, if_false]
    · intro j hj
      rw [wI_sR_n _ (Ne.symm n4), wI_sR_s, pk_cpy_in (by omega) (by omega)]
      congr 1
      omega
    · intro k hk j hj
      rw [wI_sR_n _ (by omega), wI_sR_n _ (by omega), wI_sR_n _ (by omega)]
      exact q3 k hk j hj
  have L : ∀ (f i : Nat) (w1 : Wd), f + i = 6 → Sm (fun i => a + 5 ≤ i ∧ i ≤ a + 10) w w1 → (∀ k, k < i → ∀ j, j < 3 → wI w1 (a + 5 + k) j = wI w (b + 5 + k) j) → RR g RX2 cX2_take 3 none "take" 2 0 0 0 0 2 [some (.ref (gb g + a)), some (.ref (gb g + b)), some (.int (nI i))] [] w1 Q := by
    intro f
    induction f with
    | zero =>
      intro i w1 hi hS q
      have e : i = 6 := by omega
      subst e
      refine jr_iload_n dX2_take_2 rfl ?_
      refine jr_bipush (6) dX2_take_3 (by decide) ?_
      refine jr_icmp_ge 29 dX2_take_5 (by decide) (fun c_5 => ?_) (fun c_5 => absurd (by decide) c_5)
      exact K29 _ _ hS q
    | succ f ih =>
      intro i w1 hi hS q
      have hw1 := hS.wf hw
      have hi6 : i < 6 := by omega
      have rb : wI w1 (b + 5 + i) = wI w (b + 5 + i) := hS.row (fun e => by have := d1 (b + 5 + i - a) (5 + i) (by omega) (by omega); omega)
      have nn : a + 5 + i ≠ b + 5 + i := fun e => by have := d1 (5 + i) (5 + i) (by omega) (by omega); omega
      refine jr_iload_n dX2_take_2 rfl ?_
      refine jr_bipush (6) dX2_take_3 (by decide) ?_
      refine jr_icmp_ge 29 dX2_take_5 (by decide) (fun c_5 => absurd c_5 (by rw [jlit 6]; exact nI_ge (by omega) (by decide))) (fun c_5 => ?_)
      refine jr_aload_n dX2_take_8 rfl ?_
      refine gfX2_11 (a + 1) dX2_take_9 (hA.n hw1) (hA.rc hw1) ?_
      refine jr_iload_n dX2_take_12 rfl ?_
      refine jr_aald i (hA.c hw1) (by decide) rfl ⟨hi6, by decide⟩ (by rw [hA.rk hw1 hi6, jrf_s]) dX2_take_13 ?_
      refine jr_aload_n dX2_take_14 rfl ?_
      refine gfX2_11 (b + 1) dX2_take_15 (hB.n hw1) (hB.rc hw1) ?_
      refine jr_iload_n dX2_take_18 rfl ?_
      refine jr_aald i (hB.c hw1) (by decide) rfl ⟨hi6, by decide⟩ (by rw [hB.rk hw1 hi6, jrf_s]) dX2_take_19 ?_
      refine jc_Vv (c_cTake g _ (a + 5 + i) (b + 5 + i) (hA.k hw1 hi6) (hB.k hw1 hi6) nn) lkX2_63 (hA.k hw1 hi6) rfl rfl (Nat.le_of_ble_eq_true rfl) (Nat.le_of_ble_eq_true rfl) dX2_take_20 (fun w_20 h_20 => ?_)
      obtain rfl := h_20
      refine jr_iinc_2 (nI (i + 1)) dX2_take_23 (inc1 i) (by decide) rfl ?_
      refine jr_goto 2 dX2_take_26 (by decide) ?_
      refine ih (i + 1) _ (by omega) (hS.tr (Sm.sR (by omega))) (fun k hk j hj => ?_)
      by_cases e : k = i
      · subst e
        rw [wI_sR_s, rb]
        have hj2 : j = 0 ∨ j = 1 ∨ j = 2 := by omega
        rcases hj2 with rfl | rfl | rfl <;> simp (config := { decide := true }) only [upd, if_true, if_false]
      · rw [wI_sR_n _ (by omega)]
        exact q k (by omega) j hj
  refine jr_iconst (0) dX2_take_0 (by decide) ?_
  refine jr_istore_2 dX2_take_1 (by decide) rfl ?_
  exact L 6 0 w rfl Sm.rf (fun k hk => absurd hk (by omega))
theorem c_addText (g : Cx) (w : Wd) (hw : Wf w) (a : Nat) (hA : NA a) (x k q : Nat) (hx : jK w x 5 0) (hk : k < 14) (hq : q < 3) (h12 : wI w a 12 = nI k) (hx0 : wI w x 0 = nI q) : CV g yX2_addText cX2_addText 2 2 0 0 [.ref (gb g + a), .ref (gb g + x)] w (fun w' => w' = sR (sR (sP w (a + 3) (uF (wF w (a + 3)) k (some x))) (a + 4) (upd (wI w (a + 4)) q (nI k))) a (upd (wI w a) 12 (nI (k + 1)))) := by
  have hl := hA.le
  have ne : a ≠ a + 4 := by omega
  have eq0 : (nI q).toInt = (q : Int) := i_nI (by omega)
  refine CV.of (own := RX2) (nm := "addText") (lv := [some (.ref (gb g + a)), some (.ref (gb g + x))]) (by decide) rfl rfl (Nat.le_of_ble_eq_true rfl) rfl (fun Q hQ => ?_)
  have hw1 : Wf (sP w (a + 3) (uF (wF w (a + 3)) k (some x))) := (Sq.sP (S := fun _ => False) (P := fun i => i = a + 3) rfl).wf hw (fun i e k => by subst e; exact RF_txt hA k)
  refine jr_aload_n dX2_addText_0 rfl ?_
  refine gfX2_55 dX2_addText_1 (hA.n hw) ?_
  rw [h12]
  refine jr_bipush (14) dX2_addText_4 (by decide) ?_
  refine jr_icmp_ge 53 dX2_addText_6 (by decide) (fun c_6 => absurd c_6 (by rw [jlit 14]; exact nI_ge hk (by decide))) (fun c_6 => ?_)
  refine jr_aload_n dX2_addText_9 rfl ?_
  refine gfX2_92 dX2_addText_10 hx ?_
  rw [hx0]
  refine jr_iconst (3) dX2_addText_13 (by decide) ?_
  refine jc_SNi (c_within g _ _ _) lkX2_73 rfl rfl (Nat.le_of_ble_eq_true rfl) (Nat.le_of_ble_eq_true rfl) dX2_addText_14 (fun r_14 w_14 h_14 => ?_)
  obtain ⟨rfl, rfl⟩ := h_14
  refine jr_if_eq 53 dX2_addText_17 (by decide) (fun c_17 => absurd c_17 (jb_1.mpr ⟨by omega, by simp only [Int32.reduceToInt]; omega⟩)) (fun c_17 => ?_)
  refine jr_aload_n dX2_addText_20 rfl ?_
  refine gfX2_51 (a + 3) dX2_addText_21 (hA.n hw) (hA.rt hw) ?_
  refine jr_aload_n dX2_addText_24 rfl ?_
  refine gfX2_55 dX2_addText_25 (hA.n hw) ?_
  rw [h12]
  refine jr_aload_n dX2_addText_28 rfl ?_
  refine jr_aast_g (t0 := 5) (ci := 5) k (hA.t hw) hx (by decide) rfl rfl rfl ⟨hk, by decide⟩ dX2_addText_29 ?_
  refine jr_aload_n dX2_addText_30 rfl ?_
  refine gfX2_59 (a + 4) dX2_addText_31 (hA.n hw1) (by rw [wF_sP_n _ (by omega)]; exact hA.rl hw) ?_
  refine jr_aload_n dX2_addText_34 rfl ?_
  refine gfX2_92 dX2_addText_35 hx ?_
  rw [wI_sP, hx0]
  refine jr_aload_n dX2_addText_38 rfl ?_
  refine gfX2_55 dX2_addText_39 (hA.n hw1) ?_
  rw [wI_sP, h12]
  refine jr_iast q (hA.l hw1) rfl ⟨hq, by decide⟩ dX2_addText_42 ?_
  refine jr_aload_n dX2_addText_43 rfl ?_
  refine jr_dup dX2_addText_44 rfl ?_
  refine gfX2_55 dX2_addText_45 (hA.n (hw1.sR _ _)) ?_
  rw [wI_sR_n _ ne, wI_sP, h12]
  refine jr_iconst (1) dX2_addText_48 (by decide) ?_
  refine jr_iadd dX2_addText_49 ?_
  rw [jlit 1, nI_add]
  refine pfX2_55 dX2_addText_50 (hA.n (hw1.sR _ _)) ?_
  refine jr_vret rfl dX2_addText_53 ?_
  refine hQ _ ?_
  rw [wI_sR_n _ ne, wI_sP]
