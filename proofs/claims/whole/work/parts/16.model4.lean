-- the reference: what is found of all times
theorem c_isInI (g : Cx) (w : Wd) (x : Int32) (b c : Int64) : CI g yX9_isIn cX9_isIn 6 (some .boolean) 1 0 0 [.long x.toInt64, .long b, .long c] w (fun r w' => r = jb (b.toInt ≤ x.toInt ∧ x.toInt ≤ c.toInt) ∧ w = w') := by
  have h := c_isIn g w x.toInt64 b c
  rw [l_of_i] at h
  exact h
theorem c_goesOnMany (g : Cx) (w : Wd) (hw : Wf w) (s : Nat → Int32) (hs : wI w 79 = s) (n : Nat) (hn : n < 2 ^ 31) (hG : ∀ i, i < n → Gd (goM s i)) : CV g yX9_goesOnMany cX9_goesOnMany 3 7 0 0 [.ref (gb g + 78), .int (nI n)] w (fun w' => wI w' 79 = goM s n ∧ Sm scS w w') := by
  refine CV.of (own := RX9) (nm := "goesOnMany") (lv := [some (.ref (gb g + 78)), some (.int (nI n)), none]) (by decide) rfl rfl (Nat.le_of_ble_eq_true rfl) rfl (fun Q hQ => ?_)
  have L : ∀ (f k : Nat) (w1 : Wd), f + k = n → Sm scS w w1 → wI w1 79 = goM s k → RR g RX9 cX9_goesOnMany 3 none "goesOnMany" 7 0 0 0 0 2 [some (.ref (gb g + 78)), some (.int (nI n)), some (.int (nI k))] [] w1 Q := by
    intro f
    induction f with
    | zero =>
      intro k w1 hk hS hr
      have e : k = n := by omega
      subst e
      have hw1 := hS.wf hw
      refine jr_iload_n dX9_goesOnMany_2 rfl ?_
      refine jr_iload_n dX9_goesOnMany_3 rfl ?_
      refine jr_icmp_ge 17 dX9_goesOnMany_4 (by decide) (fun c_4 => ?_) (fun c_4 => absurd (Int32.le_refl _) c_4)
      refine jr_vret rfl dX9_goesOnMany_17 ?_
      exact hQ _ ⟨hr, hS⟩
    | succ f ih =>
      intro k w1 hk hS hr
      have hw1 := hS.wf hw
      refine jr_iload_n dX9_goesOnMany_2 rfl ?_
      refine jr_iload_n dX9_goesOnMany_3 rfl ?_
      refine jr_icmp_ge 17 dX9_goesOnMany_4 (by decide) (fun c_4 => absurd c_4 (nI_ge (by omega) (by omega))) (fun c_4 => ?_)
      refine jr_aload_n dX9_goesOnMany_7 rfl ?_
      refine jc_Vv (c_goesOn g _ hw1 _ hr (hG k (by omega))) lkX9_144 (hw1.k rfl) rfl rfl (Nat.le_of_ble_eq_true rfl) (Nat.le_of_ble_eq_true rfl) dX9_goesOnMany_8 (fun w_8 h_8 => ?_)
      obtain ⟨hr2, hS2⟩ := h_8
      refine jr_iinc_2 (nI (k + 1)) dX9_goesOnMany_11 (inc1 k) (by decide) rfl ?_
      refine jr_goto 2 dX9_goesOnMany_14 (by decide) ?_
      exact ih (k + 1) _ (by omega) (hS.tr hS2) hr2
  refine jr_iconst (0) dX9_goesOnMany_0 (by decide) ?_
  refine jr_istore_2 dX9_goesOnMany_1 (by decide) rfl ?_
  exact L n 0 w (by omega) Sm.rf hs
/-- a row that holds T at all times -/
def AllR (A : Nat → Int32) (T : Nat → Nat) : Prop := ∀ t, t < 720 → A t = nI (T t)
def scA : Nat → Prop := fun i => i = 90 ∨ i = 93 ∨ i = 94
theorem scA_n {i : Nat} (h : i < 90) : ¬ scA i := fun e => by rcases e with e | e | e <;> omega
theorem scM_A {i : Nat} (h : scM i) : scA i := h.elim (fun e => Or.inr (Or.inl e)) (fun e => Or.inr (Or.inr e))
theorem c_findAll (g : Cx) (w : Wd) (hw : Wf w) (s : Nat → Int32) (hs : wI w 79 = s) (hG : Gd s) : CV g yX9_findAll cX9_findAll 2 6 0 0 [.ref (gb g + 78)] w (fun w' => AllR (wI w' 90) (fun t => totF s t (sN s 0)) ∧ Sm scA w w') := by
  refine CV.of (own := RX9) (nm := "findAll") (lv := [some (.ref (gb g + 78)), none]) (by decide) rfl rfl (Nat.le_of_ble_eq_true rfl) rfl (fun Q hQ => ?_)
  have L : ∀ (f k : Nat) (w1 : Wd), f + k = 720 → Sm scA w w1 → (∀ t, t < k → wI w1 90 t = nI (totF s t (sN s 0))) → RR g RX9 cX9_findAll 2 none "findAll" 6 0 0 0 0 2 [some (.ref (gb g + 78)), some (.int (nI k))] [] w1 Q := by
    intro f
    induction f with
    | zero =>
      intro k w1 hk hS hr
      have e : k = 720 := by omega
      subst e
      have hw1 := hS.wf hw
      refine jr_iload_n dX9_findAll_2 rfl ?_
      refine jr_sipush (720) dX9_findAll_3 (by decide) ?_
      refine jr_icmp_ge 26 dX9_findAll_6 (by decide) (fun c_6 => ?_) (fun c_6 => absurd (by decide) c_6)
      refine jr_vret rfl dX9_findAll_26 ?_
      exact hQ _ ⟨hr, hS⟩
    | succ f ih =>
      intro k w1 hk hS hr
      have hw1 := hS.wf hw
      have hs1 : wI w1 79 = s := (hS.row (scA_n (by decide))).trans hs
      refine jr_iload_n dX9_findAll_2 rfl ?_
      refine jr_sipush (720) dX9_findAll_3 (by decide) ?_
      refine jr_icmp_ge 26 dX9_findAll_6 (by decide) (fun c_6 => absurd c_6 (nI_ge (b := 720) (by omega) (by omega))) (fun c_6 => ?_)
      refine jr_aload_n dX9_findAll_9 rfl ?_
      refine gfX9_43 90 dX9_findAll_10 (hw1.k rfl) (hw1.f rfl) ?_
      refine jr_iload_n dX9_findAll_13 rfl ?_
      refine jr_aload_n dX9_findAll_14 rfl ?_
      refine jr_iload_n dX9_findAll_15 rfl ?_
      refine jc_Vi (c_mtotalAt g _ hw1 s hs1 hG k (by omega)) lkX9_134 (hw1.k rfl) rfl rfl (Nat.le_of_ble_eq_true rfl) (Nat.le_of_ble_eq_true rfl) dX9_findAll_16 (fun r_16 w_16 h_16 => ?_)
      obtain ⟨rfl, hS2⟩ := h_16
      refine jr_iast k ((hS2.wf hw1).k rfl) rfl ⟨by omega, by decide⟩ dX9_findAll_19 ?_
      refine jr_iinc_1 (nI (k + 1)) dX9_findAll_20 (inc1 k) (by decide) rfl ?_
      refine jr_goto 2 dX9_findAll_23 (by decide) ?_
      refine ih (k + 1) _ (by omega) ((hS.tr (hS2.mono (fun _ h => scM_A h))).tr (Sm.sR (Or.inl rfl))) (fun t ht => ?_)
      rw [wI_sR_s]
      by_cases e : t = k
      · rw [e, pk_us]
      · rw [pk_un e, hS2.row (scM_n (by decide)), hr t (by omega)]
  refine jr_iconst (0) dX9_findAll_0 (by decide) ?_
  refine jr_istore_1 dX9_findAll_1 (by decide) rfl ?_
  exact L 720 0 w rfl Sm.rf (fun t ht => absurd ht (by omega))
theorem c_findMore (g : Cx) (w : Wd) (hw : Wf w) (s : Nat → Int32) (hs : wI w 79 = s) (hG : Gd s) (k : Nat) (hk : k < 6) (by1 : Int32) (T T2 : Nat → Nat) (hA : AllR (wI w 90) T) (hT : ∀ t, t < 720 → nI (T t) + by1 * nI (stkF s k t) = nI (T2 t)) : CV g yX9_findMore cX9_findMore 4 5 0 0 [.ref (gb g + 78), .int (nI k), .int by1] w (fun w' => AllR (wI w' 90) T2 ∧ Sm scA w w') := by
  refine CV.of (own := RX9) (nm := "findMore") (lv := [some (.ref (gb g + 78)), some (.int (nI k)), some (.int by1), none]) (by decide) rfl rfl (Nat.le_of_ble_eq_true rfl) rfl (fun Q hQ => ?_)
  have L : ∀ (f j : Nat) (w1 : Wd), f + j = 720 → Sm scA w w1 → (∀ t, t < j → wI w1 90 t = nI (T2 t)) → (∀ t, j ≤ t → t < 720 → wI w1 90 t = nI (T t)) → RR g RX9 cX9_findMore 4 none "findMore" 5 0 0 0 0 2 [some (.ref (gb g + 78)), some (.int (nI k)), some (.int by1), some (.int (nI j))] [] w1 Q := by
    intro f
    induction f with
    | zero =>
      intro j w1 hj hS hr hr2
      have e : j = 720 := by omega
      subst e
      have hw1 := hS.wf hw
      refine jr_iload_n dX9_findMore_2 rfl ?_
      refine jr_sipush (720) dX9_findMore_3 (by decide) ?_
      refine jr_icmp_ge 32 dX9_findMore_6 (by decide) (fun c_6 => ?_) (fun c_6 => absurd (by decide) c_6)
      refine jr_vret rfl dX9_findMore_32 ?_
      exact hQ _ ⟨hr, hS⟩
    | succ f ih =>
      intro j w1 hj hS hr hr2
      have hw1 := hS.wf hw
      have hs1 : wI w1 79 = s := (hS.row (scA_n (by decide))).trans hs
      refine jr_iload_n dX9_findMore_2 rfl ?_
      refine jr_sipush (720) dX9_findMore_3 (by decide) ?_
      refine jr_icmp_ge 32 dX9_findMore_6 (by decide) (fun c_6 => absurd c_6 (nI_ge (b := 720) (by omega) (by omega))) (fun c_6 => ?_)
      refine jr_aload_n dX9_findMore_9 rfl ?_
      refine gfX9_43 90 dX9_findMore_10 (hw1.k rfl) (hw1.f rfl) ?_
      refine jr_iload_n dX9_findMore_13 rfl ?_
      refine jr_dup2 dX9_findMore_14 rfl rfl ?_
      refine jr_iald j (hw1.k rfl) rfl ⟨by omega, by decide⟩ dX9_findMore_15 ?_
      refine jr_iload_n dX9_findMore_16 rfl ?_
      refine jr_aload_n dX9_findMore_17 rfl ?_
      refine jr_iload_n dX9_findMore_18 rfl ?_
      refine jr_iload_n dX9_findMore_19 rfl ?_
      refine jc_Vi (c_strikes g _ hw1 s hs1 hG k j hk (by omega)) lkX9_115 (hw1.k rfl) rfl rfl (Nat.le_of_ble_eq_true rfl) (Nat.le_of_ble_eq_true rfl) dX9_findMore_20 (fun r_20 w_20 h_20 => ?_)
      obtain ⟨rfl, hS2⟩ := h_20
      refine jr_imul dX9_findMore_23 ?_
      refine jr_iadd dX9_findMore_24 ?_
      rw [hr2 j (by omega) (by omega), hT j (by omega)]
      refine jr_iast j ((hS2.wf hw1).k rfl) rfl ⟨by omega, by decide⟩ dX9_findMore_25 ?_
      refine jr_iinc_3 (nI (j + 1)) dX9_findMore_26 (inc1 j) (by decide) rfl ?_
      refine jr_goto 2 dX9_findMore_29 (by decide) ?_
      refine ih (j + 1) _ (by omega) ((hS.tr (hS2.mono (fun _ h => scM_A h))).tr (Sm.sR (Or.inl rfl))) (fun t ht => ?_) (fun t ht ht2 => ?_)
      · rw [wI_sR_s]
        by_cases e : t = j
        · rw [e, pk_us]
        · rw [pk_un e, hS2.row (scM_n (by decide)), hr t (by omega)]
      · rw [wI_sR_s, pk_un (by omega), hS2.row (scM_n (by decide)), hr2 t (by omega) ht2]
  refine jr_iconst (0) dX9_findMore_0 (by decide) ?_
  refine jr_istore_3 dX9_findMore_1 (by decide) rfl ?_
  exact L 720 0 w rfl Sm.rf (fun t ht => absurd ht (by omega)) (fun t _ ht => hA t ht)
/-- whether a time may be that of the newest note, by the first n notes, with totals T -/
def fitB (s : Nat → Int32) (T : Nat → Nat) (t : Nat) : Nat → Bool
  | 0 => true
  | n + 1 => fitB s T t n && decide (sN s (28 + n) ≤ T ((t + 720 - n) % 720) + (if 0 < sN s 7 then 1 else 0) ∧ (sN s 6 < 100 ∨ T ((t + 720 - n) % 720) ≤ sN s (28 + n)))
theorem fitB_f {s : Nat → Int32} {T : Nat → Nat} {t k : Nat} (h : fitB s T t k = false) : ∀ n, fitB s T t (k + n) = false
  | 0 => h
  | n + 1 => by
    show (fitB s T t (k + n) && _) = false
    rw [fitB_f h n, Bool.false_and]
theorem c_doesFit (g : Cx) (w : Wd) (hw : Wf w) (s : Nat → Int32) (hs : wI w 79 = s) (hG : Gd s) (T : Nat → Nat) (hT : ∀ t, T t ≤ 1000) (hA : AllR (wI w 90) T) (t : Nat) (ht : t < 720) : CI g yX9_doesFit cX9_doesFit 6 (some .boolean) 1 0 0 [.ref (gb g + 78), .int (nI t)] w (fun r w' => r = jb (fitB s T t (sN s 8) = true) ∧ w = w') := by
  obtain ⟨-, -, -, hea, hno, hnn, -, hnt, -⟩ := id hG
  have hn12 := hnn.2
  refine CI.of (own := RX9) (nm := "doesFit") (lv := [some (.ref (gb g + 78)), some (.int (nI t)), none, none, none, none]) (by decide) rfl rfl (Nat.le_of_ble_eq_true rfl) rfl (fun Q hQ => ?_)
  obtain ⟨z, hz⟩ : ∃ z, z = (if 0 < sN s 7 then 1 else 0) := ⟨_, rfl⟩
  have hz1 : z ≤ 1 := by rw [hz]; split <;> omega
  have eno : (nI (sN s 7)).toInt = (sN s 7 : Int) := i_nI (by have := hno.2; omega)
  have eea : (nI (sN s 6)).toInt = (sN s 6 : Int) := i_nI (by have := hea.2; omega)
  have L : ∀ (f k : Nat) (a5 : Option Value), f + k = sN s 8 → RR g RX9 cX9_doesFit 6 (some .boolean) "doesFit" 1 0 0 0 0 21 [some (.ref (gb g + 78)), some (.int (nI t)), some (.int (nI z)), some (.int (jb (fitB s T t k = true))), some (.int (nI k)), a5] [] w Q := by
    intro f
    induction f with
    | zero =>
      intro k a5 hk
      have e : k = sN s 8 := by omega
      subst e
      refine jr_iload dX9_doesFit_21 rfl ?_
      refine jr_aload_n dX9_doesFit_23 rfl ?_
      refine gfX9_7 79 dX9_doesFit_24 (hw.k rfl) (hw.f rfl) ?_
      refine jr_bipush (8) dX9_doesFit_27 (by decide) ?_
      refine jr_iald 8 (hw.k rfl) rfl (by decide) dX9_doesFit_29 ?_
      refine jr_icmp_ge 112 dX9_doesFit_30 (by decide) (fun c_30 => ?_) (fun c_30 => absurd (by rw [hs, hnn.1]; exact Int32.le_refl _) c_30)
      refine jr_iload_n dX9_doesFit_112 rfl ?_
      refine jr_zret rfl jb_n dX9_doesFit_113 ?_
      exact hQ _ _ ⟨rfl, rfl⟩
    | succ f ih =>
      intro k a5 hk
      by_cases hb : fitB s T t k = true
      · have hx : nI t + 720 - nI k - (nI t + 720 - nI k) / 720 * 720 = nI ((t + 720 - k) % 720) := by
          rw [jlit 720, nI_add, pk_sub (by omega), pk_rem (by omega) (by decide) (by decide)]
        have hlt : (t + 720 - k) % 720 < 720 := Nat.mod_lt _ (by decide)
        have hTx := hT ((t + 720 - k) % 720)
        have hnk := hnt k (by omega)
        have enk : (nI (sN s (28 + k))).toInt = (sN s (28 + k) : Int) := i_nI (by have := hnk.2; omega)
        have eT : (nI (T ((t + 720 - k) % 720))).toInt = (T ((t + 720 - k) % 720) : Int) := i_nI (by omega)
        have eTz : (nI (T ((t + 720 - k) % 720) + z)).toInt = ((T ((t + 720 - k) % 720) + z : Nat) : Int) := i_nI (by omega)
        have h9 := ih (k + 1) (some (.int (nI (T ((t + 720 - k) % 720))))) (by omega)
        have hst : fitB s T t (k + 1) = decide (sN s (28 + k) ≤ T ((t + 720 - k) % 720) + z ∧ (sN s 6 < 100 ∨ T ((t + 720 - k) % 720) ≤ sN s (28 + k))) := by
          show (fitB s T t k && _) = _
          rw [hb, hz, Bool.true_and]
        rw [hst] at h9
        refine jr_iload dX9_doesFit_21 rfl ?_
        refine jr_aload_n dX9_doesFit_23 rfl ?_
        refine gfX9_7 79 dX9_doesFit_24 (hw.k rfl) (hw.f rfl) ?_
        refine jr_bipush (8) dX9_doesFit_27 (by decide) ?_
        refine jr_iald 8 (hw.k rfl) rfl (by decide) dX9_doesFit_29 ?_
        refine jr_icmp_ge 112 dX9_doesFit_30 (by decide) (fun c_30 => absurd c_30 (by rw [hs, hnn.1]; exact nI_ge (by omega) (by omega))) (fun c_30 => ?_)
        refine jr_iload_n dX9_doesFit_33 rfl ?_
        refine jr_if_eq 112 dX9_doesFit_34 (by decide) (fun c_34 => absurd c_34 (by rw [jb_t hb]; decide)) (fun c_34 => ?_)
        refine jr_aload_n dX9_doesFit_37 rfl ?_
        refine gfX9_43 90 dX9_doesFit_38 (hw.k rfl) (hw.f rfl) ?_
        refine jr_iload_n dX9_doesFit_41 rfl ?_
        refine jr_sipush (720) dX9_doesFit_42 (by decide) ?_
        refine jr_iadd dX9_doesFit_45 ?_
        refine jr_iload dX9_doesFit_46 rfl ?_
        refine jr_isub dX9_doesFit_48 ?_
        refine jr_sipush (720) dX9_doesFit_49 (by decide) ?_
        refine jr_irem dX9_doesFit_52 (by decide) ?_
        refine jr_iald ((t + 720 - k) % 720) (hw.k rfl) hx ⟨hlt, by decide⟩ dX9_doesFit_53 ?_
        rw [hA _ hlt]
        refine jr_istore_5 dX9_doesFit_54 (by decide) rfl ?_
        refine jr_iload dX9_doesFit_56 rfl ?_
        refine jr_iload_n dX9_doesFit_58 rfl ?_
        refine jr_iadd dX9_doesFit_59 ?_
        rw [nI_add]
        refine jr_aload_n dX9_doesFit_60 rfl ?_
        refine gfX9_7 79 dX9_doesFit_61 (hw.k rfl) (hw.f rfl) ?_
        refine jr_bipush (28) dX9_doesFit_64 (by decide) ?_
        refine jr_iload dX9_doesFit_66 rfl ?_
        refine jr_iadd dX9_doesFit_68 ?_
        refine jr_iald (28 + k) (hw.k rfl) (by rw [jlit 28, nI_add]) ⟨by omega, by decide⟩ dX9_doesFit_69 ?_
        rw [hs, hnk.1]
        refine jr_icmp_lt 104 dX9_doesFit_70 (by decide) (fun c_70 => ?_) (fun c_70 => ?_)
        · simp only [lt_i, le_i, eq_i, Int32.reduceToInt] at c_70
          refine jr_iconst (0) dX9_doesFit_104 (by decide) ?_
          refine jr_istore_3 dX9_doesFit_105 (by decide) rfl ?_
          refine jr_iinc_4 (nI (k + 1)) dX9_doesFit_106 (inc1 k) (by decide) rfl ?_
          refine jr_goto 21 dX9_doesFit_109 (by decide) ?_
          first | (rw [jb_t (by rw [decide_eq_true_eq]; omega)] at h9; exact h9) | (rw [jb_f (by rw [decide_eq_true_eq]; omega)] at h9; exact h9)
        · simp only [lt_i, le_i, eq_i, Int32.reduceToInt] at c_70
          refine jr_aload_n dX9_doesFit_73 rfl ?_
          refine gfX9_7 79 dX9_doesFit_74 (hw.k rfl) (hw.f rfl) ?_
          refine jr_bipush (6) dX9_doesFit_77 (by decide) ?_
          refine jr_iald 6 (hw.k rfl) rfl (by decide) dX9_doesFit_79 ?_
          rw [hs, hea.1]
          refine jr_bipush (100) dX9_doesFit_80 (by decide) ?_
          refine jr_icmp_lt 100 dX9_doesFit_82 (by decide) (fun c_82 => ?_) (fun c_82 => ?_)
          · simp only [lt_i, le_i, eq_i, Int32.reduceToInt] at c_82
            refine jr_iconst (1) dX9_doesFit_100 (by decide) ?_
            refine jr_goto 105 dX9_doesFit_101 (by decide) ?_
            refine jr_istore_3 dX9_doesFit_105 (by decide) rfl ?_
            refine jr_iinc_4 (nI (k + 1)) dX9_doesFit_106 (inc1 k) (by decide) rfl ?_
            refine jr_goto 21 dX9_doesFit_109 (by decide) ?_
            first | (rw [jb_t (by rw [decide_eq_true_eq]; omega)] at h9; exact h9) | (rw [jb_f (by rw [decide_eq_true_eq]; omega)] at h9; exact h9)
          · simp only [lt_i, le_i, eq_i, Int32.reduceToInt] at c_82
            refine jr_aload_n dX9_doesFit_85 rfl ?_
            refine gfX9_7 79 dX9_doesFit_86 (hw.k rfl) (hw.f rfl) ?_
            refine jr_bipush (28) dX9_doesFit_89 (by decide) ?_
            refine jr_iload dX9_doesFit_91 rfl ?_
            refine jr_iadd dX9_doesFit_93 ?_
            refine jr_iald (28 + k) (hw.k rfl) (by rw [jlit 28, nI_add]) ⟨by omega, by decide⟩ dX9_doesFit_94 ?_
            rw [hs, hnk.1]
            refine jr_iload dX9_doesFit_95 rfl ?_
            refine jr_icmp_lt 104 dX9_doesFit_97 (by decide) (fun c_97 => ?_) (fun c_97 => ?_)
            · simp only [lt_i, le_i, eq_i, Int32.reduceToInt] at c_97
              refine jr_iconst (0) dX9_doesFit_104 (by decide) ?_
              refine jr_istore_3 dX9_doesFit_105 (by decide) rfl ?_
              refine jr_iinc_4 (nI (k + 1)) dX9_doesFit_106 (inc1 k) (by decide) rfl ?_
              refine jr_goto 21 dX9_doesFit_109 (by decide) ?_
              first | (rw [jb_t (by rw [decide_eq_true_eq]; omega)] at h9; exact h9) | (rw [jb_f (by rw [decide_eq_true_eq]; omega)] at h9; exact h9)
            · simp only [lt_i, le_i, eq_i, Int32.reduceToInt] at c_97
              refine jr_iconst (1) dX9_doesFit_100 (by decide) ?_
              refine jr_goto 105 dX9_doesFit_101 (by decide) ?_
              refine jr_istore_3 dX9_doesFit_105 (by decide) rfl ?_
              refine jr_iinc_4 (nI (k + 1)) dX9_doesFit_106 (inc1 k) (by decide) rfl ?_
              refine jr_goto 21 dX9_doesFit_109 (by decide) ?_
              first | (rw [jb_t (by rw [decide_eq_true_eq]; omega)] at h9; exact h9) | (rw [jb_f (by rw [decide_eq_true_eq]; omega)] at h9; exact h9)
      · have hf : fitB s T t (sN s 8) = false := by
          have := fitB_f (by simpa using hb) (sN s 8 - k)
          rwa [show k + (sN s 8 - k) = sN s 8 by omega] at this
        refine jr_iload dX9_doesFit_21 rfl ?_
        refine jr_aload_n dX9_doesFit_23 rfl ?_
        refine gfX9_7 79 dX9_doesFit_24 (hw.k rfl) (hw.f rfl) ?_
        refine jr_bipush (8) dX9_doesFit_27 (by decide) ?_
        refine jr_iald 8 (hw.k rfl) rfl (by decide) dX9_doesFit_29 ?_
        refine jr_icmp_ge 112 dX9_doesFit_30 (by decide) (fun c_30 => absurd c_30 (by rw [hs, hnn.1]; exact nI_ge (by omega) (by omega))) (fun c_30 => ?_)
        refine jr_iload_n dX9_doesFit_33 rfl ?_
        refine jr_if_eq 112 dX9_doesFit_34 (by decide) (fun c_34 => ?_) (fun c_34 => absurd (jb_f hb) c_34)
        refine jr_iload_n dX9_doesFit_112 rfl ?_
        refine jr_zret rfl jb_n dX9_doesFit_113 ?_
        exact hQ _ _ ⟨by rw [jb_f hb, jb_f (by rw [hf]; decide)], rfl⟩
  refine jr_aload_n dX9_doesFit_0 rfl ?_
  refine gfX9_7 79 dX9_doesFit_1 (hw.k rfl) (hw.f rfl) ?_
  refine jr_bipush (7) dX9_doesFit_4 (by decide) ?_
  refine jr_iald 7 (hw.k rfl) rfl (by decide) dX9_doesFit_6 ?_
  rw [hs, hno.1]
  refine jr_if_le 14 dX9_doesFit_7 (by decide) (fun c_7 => ?_) (fun c_7 => ?_)
  · simp only [lt_i, le_i, eq_i, Int32.reduceToInt] at c_7
    refine jr_iconst (0) dX9_doesFit_14 (by decide) ?_
    refine jr_istore_2 dX9_doesFit_15 (by decide) rfl ?_
    refine jr_iconst (1) dX9_doesFit_16 (by decide) ?_
    refine jr_istore_3 dX9_doesFit_17 (by decide) rfl ?_
    refine jr_iconst (0) dX9_doesFit_18 (by decide) ?_
    refine jr_istore_4 dX9_doesFit_19 (by decide) rfl ?_
    first | (have h9 := L (sN s 8) 0 none (by omega); rw [show z = 1 by rw [hz, if_pos (by omega)]] at h9; exact h9) | (have h9 := L (sN s 8) 0 none (by omega); rw [show z = 0 by rw [hz, if_neg (by omega)]] at h9; exact h9)
  · simp only [lt_i, le_i, eq_i, Int32.reduceToInt] at c_7
    refine jr_iconst (1) dX9_doesFit_10 (by decide) ?_
    refine jr_goto 15 dX9_doesFit_11 (by decide) ?_
    refine jr_istore_2 dX9_doesFit_15 (by decide) rfl ?_
    refine jr_iconst (1) dX9_doesFit_16 (by decide) ?_
    refine jr_istore_3 dX9_doesFit_17 (by decide) rfl ?_
    refine jr_iconst (0) dX9_doesFit_18 (by decide) ?_
    refine jr_istore_4 dX9_doesFit_19 (by decide) rfl ?_
    first | (have h9 := L (sN s 8) 0 none (by omega); rw [show z = 1 by rw [hz, if_pos (by omega)]] at h9; exact h9) | (have h9 := L (sN s 8) 0 none (by omega); rw [show z = 0 by rw [hz, if_neg (by omega)]] at h9; exact h9)
def cntB (p : Nat → Bool) : Nat → Nat
  | 0 => 0
  | n + 1 => cntB p n + (if p n = true then 1 else 0)
theorem cntB_le (p : Nat → Bool) : ∀ n, cntB p n ≤ n
  | 0 => Nat.le_refl _
  | n + 1 => by
    have := cntB_le p n
    simp only [cntB]
    split <;> omega
def hrsB (p : Nat → Bool) : Nat → Int32
  | 0 => 0
  | n + 1 => hrsB p n ||| (if p n = true then (1 : Int32) <<< (nI (n / 60) &&& 31) else 0)
theorem c_manyFit (g : Cx) (w : Wd) (hw : Wf w) (s : Nat → Int32) (hs : wI w 79 = s) (hG : Gd s) (T : Nat → Nat) (hT : ∀ t, T t ≤ 1000) (hA : AllR (wI w 90) T) : CI g yX9_manyFit cX9_manyFit 3 (some .int) 2 0 0 [.ref (gb g + 78)] w (fun r w' => r = nI (cntB (fun t => fitB s T t (sN s 8)) 720) ∧ w = w') := by
  refine CI.of (own := RX9) (nm := "manyFit") (lv := [some (.ref (gb g + 78)), none, none]) (by decide) rfl rfl (Nat.le_of_ble_eq_true rfl) rfl (fun Q hQ => ?_)
  have L : ∀ (f t : Nat), f + t = 720 → RR g RX9 cX9_manyFit 3 (some .int) "manyFit" 2 0 0 0 0 4 [some (.ref (gb g + 78)), some (.int (nI (cntB (fun t => fitB s T t (sN s 8)) t))), some (.int (nI t))] [] w Q := by
    intro f
    induction f with
    | zero =>
      intro t ht
      have e : t = 720 := by omega
      subst e
      refine jr_iload_n dX9_manyFit_4 rfl ?_
      refine jr_sipush (720) dX9_manyFit_5 (by decide) ?_
      refine jr_icmp_ge 33 dX9_manyFit_8 (by decide) (fun c_8 => ?_) (fun c_8 => absurd (by decide) c_8)
      refine jr_iload_n dX9_manyFit_33 rfl ?_
      refine jr_iret rfl dX9_manyFit_34 ?_
      exact hQ _ _ ⟨rfl, rfl⟩
    | succ f ih =>
      intro t ht
      have h9 := ih (t + 1) (by omega)
      simp only [cntB] at h9
      refine jr_iload_n dX9_manyFit_4 rfl ?_
      refine jr_sipush (720) dX9_manyFit_5 (by decide) ?_
      refine jr_icmp_ge 33 dX9_manyFit_8 (by decide) (fun c_8 => absurd c_8 (nI_ge (b := 720) (by omega) (by omega))) (fun c_8 => ?_)
      refine jr_iload_n dX9_manyFit_11 rfl ?_
      refine jr_aload_n dX9_manyFit_12 rfl ?_
      refine jr_iload_n dX9_manyFit_13 rfl ?_
      refine jc_Vi (c_doesFit g _ hw s hs hG T hT hA t (by omega)) lkX9_155 (hw.k rfl) rfl rfl (Nat.le_of_ble_eq_true rfl) (Nat.le_of_ble_eq_true rfl) dX9_manyFit_14 (fun r_14 w_14 h_14 => ?_)
      obtain ⟨rfl, rfl⟩ := h_14
      refine jr_if_eq 24 dX9_manyFit_17 (by decide) (fun c_17 => ?_) (fun c_17 => ?_)
      · rw [jb_0] at c_17
        refine jr_iconst (0) dX9_manyFit_24 (by decide) ?_
        refine jr_iadd dX9_manyFit_25 ?_
        first | rw [Int32.add_zero] | rw [nI_1]
        refine jr_istore_1 dX9_manyFit_26 (by decide) rfl ?_
        refine jr_iinc_2 (nI (t + 1)) dX9_manyFit_27 (inc1 t) (by decide) rfl ?_
        refine jr_goto 4 dX9_manyFit_30 (by decide) ?_
        first | (rw [if_pos c_17] at h9; exact h9) | (rw [if_neg c_17] at h9; exact h9)
      · rw [jb_1] at c_17
        refine jr_iconst (1) dX9_manyFit_20 (by decide) ?_
        refine jr_goto 25 dX9_manyFit_21 (by decide) ?_
        refine jr_iadd dX9_manyFit_25 ?_
        first | rw [Int32.add_zero] | rw [nI_1]
        refine jr_istore_1 dX9_manyFit_26 (by decide) rfl ?_
        refine jr_iinc_2 (nI (t + 1)) dX9_manyFit_27 (inc1 t) (by decide) rfl ?_
        refine jr_goto 4 dX9_manyFit_30 (by decide) ?_
        first | (rw [if_pos c_17] at h9; exact h9) | (rw [if_neg c_17] at h9; exact h9)
  refine jr_iconst (0) dX9_manyFit_0 (by decide) ?_
  refine jr_istore_1 dX9_manyFit_1 (by decide) rfl ?_
  refine jr_iconst (0) dX9_manyFit_2 (by decide) ?_
  refine jr_istore_2 dX9_manyFit_3 (by decide) rfl ?_
  exact L 720 0 rfl
theorem c_hoursFit (g : Cx) (w : Wd) (hw : Wf w) (s : Nat → Int32) (hs : wI w 79 = s) (hG : Gd s) (T : Nat → Nat) (hT : ∀ t, T t ≤ 1000) (hA : AllR (wI w 90) T) : CI g yX9_hoursFit cX9_hoursFit 3 (some .int) 2 0 0 [.ref (gb g + 78)] w (fun r w' => r = hrsB (fun t => fitB s T t (sN s 8)) 720 ∧ w = w') := by
  refine CI.of (own := RX9) (nm := "hoursFit") (lv := [some (.ref (gb g + 78)), none, none]) (by decide) rfl rfl (Nat.le_of_ble_eq_true rfl) rfl (fun Q hQ => ?_)
  have L : ∀ (f t : Nat), f + t = 720 → RR g RX9 cX9_hoursFit 3 (some .int) "hoursFit" 2 0 0 0 0 4 [some (.ref (gb g + 78)), some (.int (hrsB (fun t => fitB s T t (sN s 8)) t)), some (.int (nI t))] [] w Q := by
    intro f
    induction f with
    | zero =>
      intro t ht
      have e : t = 720 := by omega
      subst e
      refine jr_iload_n dX9_hoursFit_4 rfl ?_
      refine jr_sipush (720) dX9_hoursFit_5 (by decide) ?_
      refine jr_icmp_ge 38 dX9_hoursFit_8 (by decide) (fun c_8 => ?_) (fun c_8 => absurd (by decide) c_8)
      refine jr_iload_n dX9_hoursFit_38 rfl ?_
      refine jr_iret rfl dX9_hoursFit_39 ?_
      exact hQ _ _ ⟨rfl, rfl⟩
    | succ f ih =>
      intro t ht
      have h9 := ih (t + 1) (by omega)
      simp only [hrsB] at h9
      have hd60 : nI t / 60 = nI (t / 60) := pk_div (by omega) (by decide) (by decide)
      refine jr_iload_n dX9_hoursFit_4 rfl ?_
      refine jr_sipush (720) dX9_hoursFit_5 (by decide) ?_
      refine jr_icmp_ge 38 dX9_hoursFit_8 (by decide) (fun c_8 => absurd c_8 (nI_ge (b := 720) (by omega) (by omega))) (fun c_8 => ?_)
      refine jr_iload_n dX9_hoursFit_11 rfl ?_
      refine jr_aload_n dX9_hoursFit_12 rfl ?_
      refine jr_iload_n dX9_hoursFit_13 rfl ?_
      refine jc_Vi (c_doesFit g _ hw s hs hG T hT hA t (by omega)) lkX9_155 (hw.k rfl) rfl rfl (Nat.le_of_ble_eq_true rfl) (Nat.le_of_ble_eq_true rfl) dX9_hoursFit_14 (fun r_14 w_14 h_14 => ?_)
      obtain ⟨rfl, rfl⟩ := h_14
      refine jr_if_eq 29 dX9_hoursFit_17 (by decide) (fun c_17 => ?_) (fun c_17 => ?_)
      · rw [jb_0] at c_17
        refine jr_iconst (0) dX9_hoursFit_29 (by decide) ?_
        refine jr_ior dX9_hoursFit_30 ?_
        refine jr_istore_1 dX9_hoursFit_31 (by decide) rfl ?_
        refine jr_iinc_2 (nI (t + 1)) dX9_hoursFit_32 (inc1 t) (by decide) rfl ?_
        refine jr_goto 4 dX9_hoursFit_35 (by decide) ?_
        first | (rw [if_pos c_17] at h9; exact h9) | (rw [if_neg c_17] at h9; exact h9)
      · rw [jb_1] at c_17
        refine jr_iconst (1) dX9_hoursFit_20 (by decide) ?_
        refine jr_iload_n dX9_hoursFit_21 rfl ?_
        refine jr_bipush (60) dX9_hoursFit_22 (by decide) ?_
        refine jr_idiv dX9_hoursFit_24 (by decide) ?_
        rw [hd60]
        refine jr_ishl dX9_hoursFit_25 ?_
        refine jr_goto 30 dX9_hoursFit_26 (by decide) ?_
        refine jr_ior dX9_hoursFit_30 ?_
        refine jr_istore_1 dX9_hoursFit_31 (by decide) rfl ?_
        refine jr_iinc_2 (nI (t + 1)) dX9_hoursFit_32 (inc1 t) (by decide) rfl ?_
        refine jr_goto 4 dX9_hoursFit_35 (by decide) ?_
        first | (rw [if_pos c_17] at h9; exact h9) | (rw [if_neg c_17] at h9; exact h9)
  refine jr_iconst (0) dX9_hoursFit_0 (by decide) ?_
  refine jr_istore_1 dX9_hoursFit_1 (by decide) rfl ?_
  refine jr_iconst (0) dX9_hoursFit_2 (by decide) ?_
  refine jr_istore_2 dX9_hoursFit_3 (by decide) rfl ?_
  exact L 720 0 rfl
def sureF (x : Int32) : Prop := ¬ x = 0 ∧ x &&& (x - 1) = 0
theorem c_misSure (g : Cx) (w : Wd) (hw : Wf w) (s : Nat → Int32) (hs : wI w 79 = s) (hG : Gd s) (T : Nat → Nat) (hT : ∀ t, T t ≤ 1000) (hA : AllR (wI w 90) T) : CI g yX9_isSure cX9_isSure 2 (some .boolean) 3 0 0 [.ref (gb g + 78)] w (fun r w' => r = jb (¬ hrsB (fun t => fitB s T t (sN s 8)) 720 = 0 ∧ hrsB (fun t => fitB s T t (sN s 8)) 720 &&& (hrsB (fun t => fitB s T t (sN s 8)) 720 - 1) = 0) ∧ w = w') := by
  refine CI.of (own := RX9) (nm := "isSure") (lv := [some (.ref (gb g + 78)), none]) (by decide) rfl rfl (Nat.le_of_ble_eq_true rfl) rfl (fun Q hQ => ?_)
  refine jr_aload_n dX9_isSure_0 rfl ?_
  refine jc_Vi (c_hoursFit g _ hw s hs hG T hT hA) lkX9_158 (hw.k rfl) rfl rfl (Nat.le_of_ble_eq_true rfl) (Nat.le_of_ble_eq_true rfl) dX9_isSure_1 (fun r_1 w_1 h_1 => ?_)
  obtain ⟨rfl, rfl⟩ := h_1
  refine jr_istore_1 dX9_isSure_4 (by decide) rfl ?_
  refine jr_iload_n dX9_isSure_5 rfl ?_
  refine jr_if_eq 21 dX9_isSure_6 (by decide) (fun c_6 => ?_) (fun c_6 => ?_)
  · refine jr_iconst (0) dX9_isSure_21 (by decide) ?_
    refine jr_zret rfl (by decide) dX9_isSure_22 ?_
    first | exact hQ _ _ ⟨jb_f' (fun h => h.1 c_6), rfl⟩ | exact hQ _ _ ⟨jb_f' (fun h => c_14 h.2), rfl⟩ | exact hQ _ _ ⟨jb_t' ⟨c_6, c_14⟩, rfl⟩
  · refine jr_iload_n dX9_isSure_9 rfl ?_
    refine jr_iload_n dX9_isSure_10 rfl ?_
    refine jr_iconst (1) dX9_isSure_11 (by decide) ?_
    refine jr_isub dX9_isSure_12 ?_
    refine jr_iand dX9_isSure_13 ?_
    refine jr_if_ne 21 dX9_isSure_14 (by decide) (fun c_14 => ?_) (fun c_14 => ?_)
    · refine jr_iconst (0) dX9_isSure_21 (by decide) ?_
      refine jr_zret rfl (by decide) dX9_isSure_22 ?_
      first | exact hQ _ _ ⟨jb_f' (fun h => h.1 c_6), rfl⟩ | exact hQ _ _ ⟨jb_f' (fun h => c_14 h.2), rfl⟩ | exact hQ _ _ ⟨jb_t' ⟨c_6, c_14⟩, rfl⟩
    · refine jr_iconst (1) dX9_isSure_17 (by decide) ?_
      refine jr_goto 22 dX9_isSure_18 (by decide) ?_
      refine jr_zret rfl (by decide) dX9_isSure_22 ?_
      first | exact hQ _ _ ⟨jb_f' (fun h => h.1 c_6), rfl⟩ | exact hQ _ _ ⟨jb_f' (fun h => c_14 h.2), rfl⟩ | exact hQ _ _ ⟨jb_t' ⟨c_6, c_14⟩, rfl⟩
