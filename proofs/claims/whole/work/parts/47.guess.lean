-- the class: totals of all times
theorem c_addAt (g : Cx) (w : Wd) (hw : Wf w) (m : Nat) (hm : m < 100000) (v : Int32) : CV g yX1_addAt cX1_addAt 3 2 0 0 [.ref (gb g + 34), .int (nI m), .int v] w (fun w' => w' = sR w 35 (upd (wI w 35) (m % 720) (wI w 35 (m % 720) + v))) := by
  have hlt : m % 720 < 720 := Nat.mod_lt _ (by decide)
  refine CV.of (own := RX1) (nm := "addAt") (lv := [some (.ref (gb g + 34)), some (.int (nI m)), some (.int v)]) (by decide) rfl rfl (Nat.le_of_ble_eq_true rfl) rfl (fun Q hQ => ?_)
  refine jr_aload_n dX1_addAt_0 rfl ?_
  refine gfX1_9 35 dX1_addAt_1 (hw.k rfl) (hw.f rfl) ?_
  refine jr_iload_n dX1_addAt_4 rfl ?_
  refine jr_sipush (720) dX1_addAt_5 (by decide) ?_
  refine jc_Si (c_fmod g _ _ (m + 720) (by rw [i_nI (by omega)]; omega)) lkX1_75 rfl rfl (Nat.le_of_ble_eq_true rfl) (Nat.le_of_ble_eq_true rfl) dX1_addAt_8 (fun r_8 w_8 h_8 => ?_)
  obtain ⟨rfl, rfl⟩ := h_8
  rw [show (m + 720) % 720 = m % 720 by omega]
  refine jr_dup2 dX1_addAt_11 rfl rfl ?_
  refine jr_iald (m % 720) (hw.k rfl) rfl ⟨hlt, by decide⟩ dX1_addAt_12 ?_
  refine jr_iload_n dX1_addAt_13 rfl ?_
  refine jr_iadd dX1_addAt_14 ?_
  refine jr_iast (m % 720) (hw.k rfl) rfl ⟨hlt, by decide⟩ dX1_addAt_15 ?_
  refine jr_vret rfl dX1_addAt_16 ?_
  exact hQ _ rfl
def agX (kd : Nat) (f : Nat → Nat) (h : Nat) : Nat := if kd = 2 ∨ kd = 4 then f h else 1
def gC1 (kd o : Nat) (f : Nat → Nat) (h t : Nat) : Nat := if hrF (owF o t) < h then skF kd f (owF o t) else 0
def gC2 (kd o : Nat) (f : Nat → Nat) (h j t : Nat) : Nat := if hrF (owF o t) < h then skF kd f (owF o t) else if hrF (owF o t) = h ∧ owF o t % 60 < 15 * j ∧ owF o t % 60 % 15 = 0 then swF kd h (owF o t % 60) (agX kd f h) else 0
def GA (W T0 : Nat → Int32) (sg : Int32) (C : Nat → Nat) : Prop := ∀ t, t < 720 → W t = T0 t + sg * nI (C t)
theorem GA_step {W T0 : Nat → Int32} {sg : Int32} {C C' : Nat → Nat} {i v : Nat} (h : GA W T0 sg C) (hi : i < 720) (h0 : C i = 0) (hC : ∀ t, t < 720 → C' t = if t = i then v else C t) : GA (upd W i (W i + sg * nI v)) T0 sg C' := by
  intro t ht
  rw [hC t ht]
  by_cases e : t = i
  · subst e
    rw [pk_us, if_pos rfl, h t ht, h0, nI_0, Int32.mul_zero, Int32.add_zero]
  · rw [pk_un e, if_neg e]
    exact h t ht
theorem g_ix {o t h m : Nat} (ho : o ≤ 59) (ht : t < 720) (h1 : 1 ≤ h) (h2 : h ≤ 12) (hm : m < 60) : t = (h * 60 + o + m) % 720 ↔ (hrF (owF o t) = h ∧ owF o t % 60 = m) := by
  unfold hrF owF
  by_cases c : (t + 720 - o) % 720 < 60
  · rw [if_pos c]
    constructor
    · intro e
      omega
    · intro e
      omega
  · rw [if_neg c]
    constructor
    · intro e
      omega
    · intro e
      omega
theorem gC_s1 {kd o h j t : Nat} {f : Nat → Nat} (ho : o ≤ 59) (ht : t < 720) (h1 : 1 ≤ h) (h2 : h ≤ 12) (hj : j < 4) : gC2 kd o f h (j + 1) t = if t = (h * 60 + o + 15 * j) % 720 then swF kd h (15 * j) (agX kd f h) else gC2 kd o f h j t := by
  have e := g_ix (o := o) (t := t) (h := h) (m := 15 * j) ho ht h1 h2 (by omega)
  unfold gC2
  by_cases c : t = (h * 60 + o + 15 * j) % 720
  · obtain ⟨e1, e2⟩ := e.mp c
    rw [if_pos c, if_neg (by omega), if_pos ⟨e1, by omega, by omega⟩, e2]
  · rw [if_neg c]
    by_cases c1 : hrF (owF o t) < h
    · rw [if_pos c1, if_pos c1]
    · rw [if_neg c1, if_neg c1]
      by_cases c2 : hrF (owF o t) = h ∧ owF o t % 60 < 15 * j ∧ owF o t % 60 % 15 = 0
      · rw [if_pos c2, if_pos ⟨c2.1, by omega, c2.2.2⟩]
      · rw [if_neg c2, if_neg (fun c3 => ?_)]
        have c4 : ¬ owF o t % 60 = 15 * j := fun c5 => c (e.mpr ⟨c3.1, c5⟩)
        exact c2 ⟨c3.1, by omega, c3.2.2⟩
theorem gC_z1 {kd o h j : Nat} {f : Nat → Nat} (ho : o ≤ 59) (h1 : 1 ≤ h) (h2 : h ≤ 12) (hj : j < 4) : gC2 kd o f h j ((h * 60 + o + 15 * j) % 720) = 0 := by
  obtain ⟨e1, e2⟩ := (g_ix (o := o) (t := (h * 60 + o + 15 * j) % 720) (h := h) (m := 15 * j) ho (Nat.mod_lt _ (by decide)) h1 h2 (by omega)).mp rfl
  unfold gC2
  rw [if_neg (by omega), if_neg (by omega)]
theorem gC_0 (kd o h t : Nat) (f : Nat → Nat) : gC2 kd o f h 0 t = gC1 kd o f h t := by
  unfold gC2 gC1
  by_cases c1 : hrF (owF o t) < h
  · rw [if_pos c1, if_pos c1]
  · rw [if_neg c1, if_neg c1, if_neg (by omega)]
theorem sk_parts {kd own ag : Nat} {f : Nat → Nat} (ha : 1 ≤ ag ∧ ag ≤ 14) (hf : (kd = 2 ∨ kd = 4) → ag = f (hrF own)) : skF kd f own = if own % 60 % 15 = 0 then swF kd (hrF own) (own % 60) ag else if own % 60 = ag then swF kd (hrF own) ag ag else 0 := by
  have hf2 : ¬ (kd = 2 ∨ kd = 4) ∨ ag = f (hrF own) := by
    by_cases c : kd = 2 ∨ kd = 4
    · exact Or.inr (hf c)
    · exact Or.inl c
  clear hf
  unfold skF swF
  generalize f (hrF own) = F at hf2 ⊢
  generalize ahF kd (hrF own) = A
  repeat' split
  all_goals omega
theorem gC_s2 {kd o h t : Nat} {f : Nat → Nat} (ho : o ≤ 59) (ht : t < 720) (h1 : 1 ≤ h) (h2 : h ≤ 12) (ha : 1 ≤ agX kd f h ∧ agX kd f h ≤ 14) : gC1 kd o f (h + 1) t = if t = (h * 60 + o + agX kd f h) % 720 then swF kd h (agX kd f h) (agX kd f h) else gC2 kd o f h 4 t := by
  have e := g_ix (o := o) (t := t) (h := h) (m := agX kd f h) ho ht h1 h2 (by omega)
  have hl : owF o t % 60 < 60 := Nat.mod_lt _ (by decide)
  unfold gC1 gC2
  by_cases c : hrF (owF o t) = h
  · have hs := sk_parts (kd := kd) (own := owF o t) (ag := agX kd f h) (f := f) ha (fun h9 => by rw [c, agX, if_pos h9])
    rw [c] at hs
    rw [if_pos (by omega), hs, if_neg (show ¬ hrF (owF o t) < h by omega)]
    by_cases c15 : owF o t % 60 % 15 = 0
    · rw [if_pos c15, if_neg (fun h9 => by have := (e.mp h9).2; omega), if_pos ⟨c, by omega, c15⟩]
    · rw [if_neg c15, if_neg (show ¬ (hrF (owF o t) = h ∧ owF o t % 60 < 15 * 4 ∧ owF o t % 60 % 15 = 0) from fun h9 => c15 h9.2.2)]
      by_cases ca : owF o t % 60 = agX kd f h
      · rw [if_pos ca, if_pos (e.mpr ⟨c, ca⟩)]
      · rw [if_neg ca, if_neg (fun h9 => ca (e.mp h9).2)]
  · rw [if_neg (show ¬ t = _ from fun h9 => c (e.mp h9).1)]
    by_cases c1 : hrF (owF o t) < h
    · rw [if_pos (by omega), if_pos c1]
    · rw [if_neg (by omega), if_neg c1, if_neg (fun h9 => c h9.1)]
theorem gC_z2 {kd o h : Nat} {f : Nat → Nat} (ho : o ≤ 59) (h1 : 1 ≤ h) (h2 : h ≤ 12) (ha : 1 ≤ agX kd f h ∧ agX kd f h ≤ 14) : gC2 kd o f h 4 ((h * 60 + o + agX kd f h) % 720) = 0 := by
  obtain ⟨e1, e2⟩ := (g_ix (o := o) (t := (h * 60 + o + agX kd f h) % 720) (h := h) (m := agX kd f h) ho (Nat.mod_lt _ (by decide)) h1 h2 (by omega)).mp rfl
  unfold gC2
  rw [if_neg (by omega), if_neg (by omega)]
def scQ : Nat → Prop := fun i => scK i ∨ i = 35
theorem scQ_n {i : Nat} (h : i < 98) (h2 : i ≠ 35) : ¬ scQ i := fun e => e.elim (fun e => scK_n h e) h2
theorem NR.q {w w' : Wd} {a : Nat} {s : Nat → Int32} (h : NR w a s) (ha : NA a) (hS : Sm scQ w w') : NR w' a s :=
  h.sm hS (fun i hi e => by
    have := ha.le
    rcases e with e | e
    · unfold scK at e; omega
    · omega)
theorem c_addStrokes (g : Cx) (w : Wd) (hw : Wf w) (a : Nat) (hA : NA a) (s : Nat → Int32) (hG : Gd s) (hN : NR w a s) (c kd o0 tn : Nat) (hC : Ck w c kd o0 tn) (hc35 : c ≠ 35) (o : Nat) (ho : o ≤ 59) (sg : Int32) : CV g yX1_addStrokes cX1_addStrokes 10 4 0 0 [.ref (gb g + 34), .ref (gb g + a), .ref (gb g + c), .int (nI o), .int sg] w (fun w' => (∀ t, t < 720 → wI w' 35 t = wI w 35 t + sg * nI (stkW s kd o tn t)) ∧ Sm scQ w w') := by
  obtain ⟨⟨hc98, hck⟩, hkd, -, -, hk5, -, -⟩ := id hC
  obtain ⟨fA, hfA⟩ : ∃ f, f = agW s o tn := ⟨_, rfl⟩
  have hrg : ∀ h, 1 ≤ agX kd fA h ∧ agX kd fA h ≤ 14 := by
    intro h
    unfold agX
    split
    · rw [hfA]; exact agW_rng s o tn h
    · omega
  refine CV.of (own := RX1) (nm := "addStrokes") (lv := [some (.ref (gb g + 34)), some (.ref (gb g + a)), some (.ref (gb g + c)), some (.int (nI o)), some (.int sg), none, none, none, none, none]) (by decide) rfl rfl (Nat.le_of_ble_eq_true rfl) rfl (fun Q hQ => ?_)
  have L13 : ∀ (f h : Nat) (w1 : Wd) (a7 a8 a9 : Option Value), f + h = 13 → 1 ≤ h → jc1 a7 = true → jc1 a8 = true → Sm scQ w w1 → GA (wI w1 35) (wI w 35) sg (gC1 kd o fA h) → RR g RX1 cX1_addStrokes 10 none "addStrokes" 4 0 0 0 0 13 [some (.ref (gb g + 34)), some (.ref (gb g + a)), some (.ref (gb g + c)), some (.int (nI o)), some (.int sg), some (.int (jb (kd = 2 ∨ kd = 4))), some (.int (nI h)), a7, a8, a9] [] w1 Q := by
    intro f
    induction f with
    | zero =>
      intro h w1 a7 a8 a9 hf h1 j7 j8 hS hGA
      have e : h = 13 := by omega
      subst e
      refine jr_iload dX1_addStrokes_13 rfl ?_
      refine jr_bipush (12) dX1_addStrokes_15 (by decide) ?_
      refine jr_icmp_gt 120 dX1_addStrokes_17 (by decide) (fun c_17 => ?_) (fun c_17 => absurd (by decide) c_17)
      refine jr_vret rfl dX1_addStrokes_120 ?_
      refine hQ _ ⟨fun t ht => ?_, hS⟩
      rw [hGA t ht, gC1, if_pos (by have := (hr_rng (ow_lt o t)).2; omega), hfA]
      rfl
    | succ f ih =>
      intro h w1 a7 a8 a9 hf h1 j7 j8 hS hGA
      have h12 : h ≤ 12 := by omega
      have hag := hrg h
      have hw1 := hS.wf hw
      have hN1 := hN.q hA hS
      have hC1 := hC.sm hS (scQ_n hc98 hc35)
      have L51 : ∀ (f2 j : Nat) (w1 : Wd), f2 + j = 4 → Sm scQ w w1 → GA (wI w1 35) (wI w 35) sg (gC2 kd o fA h j) → RR g RX1 cX1_addStrokes 10 none "addStrokes" 4 0 0 0 0 51 [some (.ref (gb g + 34)), some (.ref (gb g + a)), some (.ref (gb g + c)), some (.int (nI o)), some (.int sg), some (.int (jb (kd = 2 ∨ kd = 4))), some (.int (nI h)), some (.int (nI (agX kd fA h))), some (.int (nI (h * 60 + o))), some (.int (nI (15 * j)))] [] w1 Q := by
        intro f2
        induction f2 with
        | zero =>
          intro j w1 hj hS hGA
          have e : j = 4 := by omega
          subst e
          have hw1 := hS.wf hw
          have hC1 := hC.sm hS (scQ_n hc98 hc35)
          have hGA2 := GA_step hGA (Nat.mod_lt _ (by decide)) (gC_z2 ho h1 h12 hag) (fun t ht => gC_s2 ho ht h1 h12 hag)
          refine jr_iload dX1_addStrokes_51 rfl ?_
          refine jr_bipush (60) dX1_addStrokes_53 (by decide) ?_
          refine jr_icmp_ge 89 dX1_addStrokes_55 (by decide) (fun c_55 => ?_) (fun c_55 => absurd (by decide) c_55)
          refine jr_aload_n dX1_addStrokes_89 rfl ?_
          refine jr_iload dX1_addStrokes_90 rfl ?_
          refine jr_iload dX1_addStrokes_92 rfl ?_
          refine jr_iadd dX1_addStrokes_94 ?_
          rw [nI_add]
          refine jr_iload dX1_addStrokes_95 rfl ?_
          refine jr_aload_n dX1_addStrokes_97 rfl ?_
          refine gfX1_56 dX1_addStrokes_98 (hS.K.mpr hck) ?_
          rw [hC1.2.1]
          refine jr_iload dX1_addStrokes_101 rfl ?_
          refine jr_iload dX1_addStrokes_103 rfl ?_
          refine jr_iload dX1_addStrokes_105 rfl ?_
          refine jc_SNi (c_sWithin g _ kd h _ _ hk5 h12 (by omega) (by omega)) lkX1_67 rfl rfl (Nat.le_of_ble_eq_true rfl) (Nat.le_of_ble_eq_true rfl) dX1_addStrokes_107 (fun r_107 w_107 h_107 => ?_)
          obtain ⟨rfl, rfl⟩ := h_107
          refine jr_imul dX1_addStrokes_110 ?_
          refine jc_Vv (c_addAt g _ hw1 _ (by omega) _) lkX1_71 (hw1.k rfl) rfl rfl (Nat.le_of_ble_eq_true rfl) (Nat.le_of_ble_eq_true rfl) dX1_addStrokes_111 (fun w_111 h_111 => ?_)
          obtain rfl := h_111
          refine jr_iinc_6 (nI (h + 1)) dX1_addStrokes_114 (inc1 h) (by decide) rfl ?_
          refine jr_goto 13 dX1_addStrokes_117 (by decide) ?_
          exact ih (h + 1) _ _ _ _ (by omega) (by omega) rfl rfl (hS.tr (Sm.sR (Or.inr rfl))) (by rw [wI_sR_s]; exact hGA2)
        | succ f2 ih2 =>
          intro j w1 hj hS hGA
          have hw1 := hS.wf hw
          have hC1 := hC.sm hS (scQ_n hc98 hc35)
          have hGA2 := GA_step hGA (Nat.mod_lt _ (by decide)) (gC_z1 ho h1 h12 (by omega)) (fun t ht => gC_s1 ho ht h1 h12 (by omega))
          refine jr_iload dX1_addStrokes_51 rfl ?_
          refine jr_bipush (60) dX1_addStrokes_53 (by decide) ?_
          refine jr_icmp_ge 89 dX1_addStrokes_55 (by decide) (fun c_55 => absurd c_55 (by rw [jlit 60]; exact nI_ge (by omega) (by decide))) (fun c_55 => ?_)
          refine jr_aload_n dX1_addStrokes_58 rfl ?_
          refine jr_iload dX1_addStrokes_59 rfl ?_
          refine jr_iload dX1_addStrokes_61 rfl ?_
          refine jr_iadd dX1_addStrokes_63 ?_
          rw [nI_add]
          refine jr_iload dX1_addStrokes_64 rfl ?_
          refine jr_aload_n dX1_addStrokes_66 rfl ?_
          refine gfX1_56 dX1_addStrokes_67 (hS.K.mpr hck) ?_
          rw [hC1.2.1]
          refine jr_iload dX1_addStrokes_70 rfl ?_
          refine jr_iload dX1_addStrokes_72 rfl ?_
          refine jr_iload dX1_addStrokes_74 rfl ?_
          refine jc_SNi (c_sWithin g _ kd h _ _ hk5 h12 (by omega) (by omega)) lkX1_67 rfl rfl (Nat.le_of_ble_eq_true rfl) (Nat.le_of_ble_eq_true rfl) dX1_addStrokes_76 (fun r_76 w_76 h_76 => ?_)
          obtain ⟨rfl, rfl⟩ := h_76
          refine jr_imul dX1_addStrokes_79 ?_
          refine jc_Vv (c_addAt g _ hw1 _ (by omega) _) lkX1_71 (hw1.k rfl) rfl rfl (Nat.le_of_ble_eq_true rfl) (Nat.le_of_ble_eq_true rfl) dX1_addStrokes_80 (fun w_80 h_80 => ?_)
          obtain rfl := h_80
          refine jr_iinc_9 (nI (15 * (j + 1))) dX1_addStrokes_83 (by rw [show Int32.ofInt 15 = nI 15 from rfl, nI_add]; congr 1) (by decide) rfl ?_
          refine jr_goto 51 dX1_addStrokes_86 (by decide) ?_
          exact ih2 (j + 1) _ (by omega) (hS.tr (Sm.sR (Or.inr rfl))) (by rw [wI_sR_s]; exact hGA2)
      have K37 : ∀ (w1 : Wd), Sm scQ w w1 → GA (wI w1 35) (wI w 35) sg (gC1 kd o fA h) → RR g RX1 cX1_addStrokes 10 none "addStrokes" 4 0 0 0 0 37 [some (.ref (gb g + 34)), some (.ref (gb g + a)), some (.ref (gb g + c)), some (.int (nI o)), some (.int sg), some (.int (jb (kd = 2 ∨ kd = 4))), some (.int (nI h)), a7, a8, a9] [.int (nI (agX kd fA h))] w1 Q := by
        intro w1 hS hGA
        refine jr_istore_7 dX1_addStrokes_37 (by decide) rfl ?_
        refine jr_iload dX1_addStrokes_39 rfl ?_
        refine jr_bipush (60) dX1_addStrokes_41 (by decide) ?_
        refine jr_imul dX1_addStrokes_43 ?_
        refine jr_iload_n dX1_addStrokes_44 rfl ?_
        refine jr_iadd dX1_addStrokes_45 ?_
        rw [jlit 60, pk_mul, nI_add]
        refine jr_istore_8 dX1_addStrokes_46 (by decide) rfl ?_
        refine jr_iconst (0) dX1_addStrokes_48 (by decide) ?_
        refine jr_istore_9 dX1_addStrokes_49 (by decide) rfl ?_
        exact L51 4 0 _ rfl hS (fun t ht => by rw [gC_0]; exact hGA t ht)
      by_cases htw : kd = 2 ∨ kd = 4
      · have e1 : agX kd fA h = agW s o tn h := by rw [agX, if_pos htw, hfA]
        rw [e1] at K37
        refine jr_iload dX1_addStrokes_13 rfl ?_
        refine jr_bipush (12) dX1_addStrokes_15 (by decide) ?_
        refine jr_icmp_gt 120 dX1_addStrokes_17 (by decide) (fun c_17 => absurd c_17 (by rw [jlit 12]; exact nI_nlt h12 (by decide))) (fun c_17 => ?_)
        refine jr_iload dX1_addStrokes_20 rfl ?_
        refine jr_if_eq 36 dX1_addStrokes_22 (by decide) (fun c_22 => absurd c_22 (jb_1.mpr htw)) (fun c_22 => ?_)
        refine jr_aload_n dX1_addStrokes_25 rfl ?_
        refine jr_aload_n dX1_addStrokes_26 rfl ?_
        refine jr_iload_n dX1_addStrokes_27 rfl ?_
        refine jr_iload dX1_addStrokes_28 rfl ?_
        refine jc_Vi (c_againMinute g _ hw1 a hA s hG hN1 c kd o0 tn hC1 o h) lkX1_63 (hA.n hw1) rfl rfl (Nat.le_of_ble_eq_true rfl) (Nat.le_of_ble_eq_true rfl) dX1_addStrokes_30 (fun r_30 w_30 h_30 => ?_)
        obtain ⟨rfl, hS2⟩ := h_30
        refine jr_goto 37 dX1_addStrokes_33 (by decide) ?_
        exact K37 _ (hS.tr (hS2.mono (fun i q => Or.inl q))) (by rw [hS2.row (scK_n (by decide))]; exact hGA)
      · have e1 : agX kd fA h = 1 := by rw [agX, if_neg htw]
        rw [e1] at K37
        refine jr_iload dX1_addStrokes_13 rfl ?_
        refine jr_bipush (12) dX1_addStrokes_15 (by decide) ?_
        refine jr_icmp_gt 120 dX1_addStrokes_17 (by decide) (fun c_17 => absurd c_17 (by rw [jlit 12]; exact nI_nlt h12 (by decide))) (fun c_17 => ?_)
        refine jr_iload dX1_addStrokes_20 rfl ?_
        refine jr_if_eq 36 dX1_addStrokes_22 (by decide) (fun c_22 => ?_) (fun c_22 => absurd (jb_f htw) c_22)
        refine jr_iconst (1) dX1_addStrokes_36 (by decide) ?_
        exact K37 _ hS hGA
  have e0 : jb (kd = 2 ∨ 2 = 0 ∨ (2 = 1 ∧ kd = 3) ∨ (2 = 2 ∧ kd = 4)) = jb (kd = 2 ∨ kd = 4) := by
    by_cases h9 : kd = 2 ∨ kd = 4
    · rw [jb_t h9, jb_t (by omega)]
    · rw [jb_f h9, jb_f (by omega)]
  refine jr_aload_n dX1_addStrokes_0 rfl ?_
  refine gfX1_56 dX1_addStrokes_1 hck ?_
  rw [hkd]
  refine jr_iconst (2) dX1_addStrokes_4 (by decide) ?_
  refine jc_SNi (c_isUnder g _ kd 2 hk5 (by decide)) lkX1_59 rfl rfl (Nat.le_of_ble_eq_true rfl) (Nat.le_of_ble_eq_true rfl) dX1_addStrokes_5 (fun r_5 w_5 h_5 => ?_)
  obtain ⟨rfl, rfl⟩ := h_5
  rw [e0]
  refine jr_istore_5 dX1_addStrokes_8 (by decide) rfl ?_
  refine jr_iconst (1) dX1_addStrokes_10 (by decide) ?_
  refine jr_istore_6 dX1_addStrokes_11 (by decide) rfl ?_
  exact L13 12 1 _ _ _ _ (by omega) (by omega) rfl rfl Sm.rf (fun t ht => by rw [gC1, if_neg (by have := (hr_rng (ow_lt o t)).1; omega), nI_0, Int32.mul_zero, Int32.add_zero])
theorem c_useClocks (g : Cx) (w : Wd) (hw : Wf w) (a : Nat) (hA : NA a) (s : Nat → Int32) (hG : Gd s) (hN : NR w a s) : CV g yX1_useClocks cX1_useClocks 4 5 0 0 [.ref (gb g + 34), .ref (gb g + a)] w (fun w' => AllR (wI w' 35) (totT s) ∧ Sm scQ w w') := by
  have h0 : Nb s 0 6 := hG.1
  have h6 := h0.2
  have hl := hA.le
  have hC : ClkOk s := hG.2.2.2.2.2.2.1
  refine CV.of (own := RX1) (nm := "useClocks") (lv := [some (.ref (gb g + 34)), some (.ref (gb g + a)), none, none]) (by decide) rfl rfl (Nat.le_of_ble_eq_true rfl) rfl (fun Q hQ => ?_)
  have L : ∀ (f k : Nat) (w1 : Wd) (a3 : Option Value), f + k = sN s 0 → Sm scQ w w1 → AllR (wI w1 35) (fun t => totF s t k) → RR g RX1 cX1_useClocks 4 none "useClocks" 5 0 0 0 0 10 [some (.ref (gb g + 34)), some (.ref (gb g + a)), some (.int (nI k)), a3] [] w1 Q := by
    intro f
    induction f with
    | zero =>
      intro k w1 a3 hk hS hT
      have e : k = sN s 0 := by omega
      subst e
      have hw1 := hS.wf hw
      have hN1 := hN.q hA hS
      refine jr_iload_n dX1_useClocks_10 rfl ?_
      refine jr_aload_n dX1_useClocks_11 rfl ?_
      refine gfX1_38 dX1_useClocks_12 (hA.n hw1) ?_
      refine jr_icmp_ge 42 dX1_useClocks_15 (by decide) (fun c_15 => ?_) (fun c_15 => absurd (by rw [hN1.1.1, h0.1]; exact Int32.le_refl _) c_15)
      refine jr_vret rfl dX1_useClocks_42 ?_
      exact hQ _ ⟨hT, hS⟩
    | succ f ih =>
      intro k w1 a3 hk hS hT
      have hw1 := hS.wf hw
      have hN1 := hN.q hA hS
      have hk6 : k < 6 := by omega
      have hCk := hN1.ck hA hw1 hC hk6
      refine jr_iload_n dX1_useClocks_10 rfl ?_
      refine jr_aload_n dX1_useClocks_11 rfl ?_
      refine gfX1_38 dX1_useClocks_12 (hA.n hw1) ?_
      refine jr_icmp_ge 42 dX1_useClocks_15 (by decide) (fun c_15 => absurd c_15 (by rw [hN1.1.1, h0.1]; exact nI_ge (by omega) (by omega))) (fun c_15 => ?_)
      refine jr_aload_n dX1_useClocks_18 rfl ?_
      refine gfX1_43 (a + 1) dX1_useClocks_19 (hA.n hw1) (hA.rc hw1) ?_
      refine jr_iload_n dX1_useClocks_22 rfl ?_
      refine jr_aald k (hA.c hw1) (by decide) rfl ⟨hk6, by decide⟩ (by rw [hA.rk hw1 hk6, jrf_s]) dX1_useClocks_23 ?_
      refine jr_astore_3 dX1_useClocks_24 (by decide) rfl ?_
      refine jr_aload_n dX1_useClocks_25 rfl ?_
      refine jr_aload_n dX1_useClocks_26 rfl ?_
      refine jr_aload_n dX1_useClocks_27 rfl ?_
      refine jr_aload_n dX1_useClocks_28 rfl ?_
      refine gfX1_47 dX1_useClocks_29 (hA.k hw1 hk6) ?_
      rw [hCk.2.2.1]
      refine jr_iconst (1) dX1_useClocks_32 (by decide) ?_
      refine jc_Vv (c_addStrokes g _ hw1 a hA s hG hN1 _ _ _ _ hCk (by omega) _ hCk.2.2.2.2.2.1 1) lkX1_52 (hw1.k rfl) rfl rfl (Nat.le_of_ble_eq_true rfl) (Nat.le_of_ble_eq_true rfl) dX1_useClocks_33 (fun w_33 h_33 => ?_)
      obtain ⟨hT2, hS2⟩ := h_33
      refine jr_iinc_2 (nI (k + 1)) dX1_useClocks_36 (inc1 k) (by decide) rfl ?_
      refine jr_goto 10 dX1_useClocks_39 (by decide) ?_
      refine ih (k + 1) _ _ (by omega) (hS.tr hS2) (fun t ht => ?_)
      rw [hT2 t ht, hT t ht, Int32.one_mul, nI_add]
      rfl
  refine jr_aload_n dX1_useClocks_0 rfl ?_
  refine gfX1_9 35 dX1_useClocks_1 (hw.k rfl) (hw.f rfl) ?_
  refine jr_iconst (0) dX1_useClocks_4 (by decide) ?_
  refine jc_Sv (c_fill g _ 35 720 (hw.k rfl) (by decide) 0) lkX1_32 rfl rfl (Nat.le_of_ble_eq_true rfl) (Nat.le_of_ble_eq_true rfl) dX1_useClocks_5 (fun w_5 h_5 => ?_)
  obtain rfl := h_5
  refine jr_iconst (0) dX1_useClocks_8 (by decide) ?_
  refine jr_istore_2 dX1_useClocks_9 (by decide) rfl ?_
  exact L _ 0 _ _ rfl (Sm.sR (Or.inr rfl)) (fun t ht => by rw [wI_sR_s, filR, if_pos ht]; rfl)
