-- the reference: lots, minutes, what time it may be
def rmI (x n : Int32) : Int32 := x - x / n * n
def dl1 (s : Nat → Int32) : Nat → Int32 := comesF (upd (upd (upd s 9 (drawZ (s 9))) 9 (drawZ (drawZ (s 9)))) 9 (drawZ (drawZ (drawZ (s 9))))) (sN s 0) (rmI (drawV (s 9)) 6) (rmI (drawV (drawZ (s 9))) 10) (rmI (drawV (drawZ (drawZ (s 9)))) 10)
def dlR (s : Nat → Int32) : Nat → Nat → Int32
  | 0 => s
  | n + 1 => dl1 (dlR s n)
theorem dl1_0 {s : Nat → Int32} : dl1 s 0 = nI (sN s 0 + 1) := by rw [dl1, comesF, pk_un (by omega), pk_un (by omega), pk_un (by omega), pk_us]
theorem dlR_0 {s : Nat → Int32} (h0 : s 0 = nI (sN s 0)) : ∀ n, sN s 0 + n < 2 ^ 31 → dlR s n 0 = nI (sN s 0 + n)
  | 0, _ => h0
  | n + 1, h => by
    show dl1 (dlR s n) 0 = _
    rw [dl1_0, sN_of (dlR_0 h0 n (by omega)) (by omega), Nat.add_assoc]
def F_deal (s : Nat → Int32) (n : Int32) : Ro := if inR n 1 6 then (nI (min n.toNatClampNeg (6 - sN s 0)), dlR s (min n.toNatClampNeg (6 - sN s 0))) else (-1000000001, s)
theorem m_deal (g : Cx) (w : Wd) (hw : Wf w) (s : Nat → Int32) (hs : wI w 79 = s) (hG : Gd s) (n : Int32) : CI g yX9_deal cX9_deal 5 (some .int) 3 0 0 [.ref (gb g + 78), .int n] w (fun r w' => r = (F_deal s n).1 ∧ MS w w' (F_deal s n).2) := by
  obtain ⟨h0, -⟩ := id hG
  have h6 := h0.2
  refine CI.of (own := RX9) (nm := "deal") (lv := [some (.ref (gb g + 78)), some (.int n), none, none, none]) (by decide) rfl rfl (Nat.le_of_ble_eq_true rfl) rfl (fun Q hQ => ?_)
  have L : ∀ (m : Nat), 1 ≤ m → m ≤ 6 → n = nI m → ∀ (f i : Nat) (w1 : Wd) (a3 a4 : Option Value), f + i = min m (6 - sN s 0) → jc1 a3 = true → wI w1 79 = dlR s i → Sm scP w w1 → RR g RX9 cX9_deal 5 (some .int) "deal" 3 0 0 0 0 17 [some (.ref (gb g + 78)), some (.int n), some (.int (nI i)), a3, a4] [] w1 Q := by
    intro m hm1 hm6 en f
    subst en
    induction f with
    | zero =>
      intro i w1 a3 a4 hi h3 hr hS
      have e : i = min m (6 - sN s 0) := by omega
      have hw1 := hS.wf hw
      have em := i_nI (n := m) (by omega)
      have hfin : Q (some (.int (nI i))) w1 := hQ _ _ (fin2 (s' := dlR s i) (by rw [F_deal, if_pos (by unfold inR; omega), nI_clamp (by omega), e]) ⟨hr, hS⟩)
      by_cases him : m ≤ i
      · refine jr_iload_n dX9_deal_17 rfl ?_
        refine jr_iload_n dX9_deal_18 rfl ?_
        refine jr_icmp_ge 70 dX9_deal_19 (by decide) (fun c_19 => ?_) (fun c_19 => absurd (nI_le him (by omega)) c_19)
        refine jr_iload_n dX9_deal_70 rfl ?_
        refine jr_iret rfl dX9_deal_71 ?_
        exact hfin
      · refine jr_iload_n dX9_deal_17 rfl ?_
        refine jr_iload_n dX9_deal_18 rfl ?_
        refine jr_icmp_ge 70 dX9_deal_19 (by decide) (fun c_19 => absurd c_19 (nI_ge (by omega) (by omega))) (fun c_19 => ?_)
        refine jr_aload_n dX9_deal_22 rfl ?_
        refine gfX9_7 79 dX9_deal_23 (hw1.k rfl) (hw1.f rfl) ?_
        refine jr_iconst (0) dX9_deal_26 (by decide) ?_
        refine jr_iald 0 (hw1.k rfl) rfl (by decide) dX9_deal_27 ?_
        rw [hr, dlR_0 h0.1 i (by omega)]
        refine jr_bipush (6) dX9_deal_28 (by decide) ?_
        refine jr_icmp_ge 70 dX9_deal_30 (by decide) (fun c_30 => ?_) (fun c_30 => absurd (nI_le (a := 6) (by omega) (by omega)) c_30)
        refine jr_iload_n dX9_deal_70 rfl ?_
        refine jr_iret rfl dX9_deal_71 ?_
        exact hfin
    | succ f ih =>
      intro i w1 a3 a4 hi h3 hr hS
      have hw1 := hS.wf hw
      have ei := dlR_0 h0.1 i (by omega)
      refine jr_iload_n dX9_deal_17 rfl ?_
      refine jr_iload_n dX9_deal_18 rfl ?_
      refine jr_icmp_ge 70 dX9_deal_19 (by decide) (fun c_19 => absurd c_19 (nI_ge (by omega) (by omega))) (fun c_19 => ?_)
      refine jr_aload_n dX9_deal_22 rfl ?_
      refine gfX9_7 79 dX9_deal_23 (hw1.k rfl) (hw1.f rfl) ?_
      refine jr_iconst (0) dX9_deal_26 (by decide) ?_
      refine jr_iald 0 (hw1.k rfl) rfl (by decide) dX9_deal_27 ?_
      rw [hr, ei]
      refine jr_bipush (6) dX9_deal_28 (by decide) ?_
      refine jr_icmp_ge 70 dX9_deal_30 (by decide) (fun c_30 => absurd c_30 (nI_ge (b := 6) (by omega) (by omega))) (fun c_30 => ?_)
      refine jr_aload_n dX9_deal_33 rfl ?_
      refine jc_Vi (c_drawn g _ hw1) lkX9_141 (hw1.k rfl) rfl rfl (Nat.le_of_ble_eq_true rfl) (Nat.le_of_ble_eq_true rfl) dX9_deal_34 (fun r_34 w_34 h_34 => ?_)
      obtain ⟨rfl, rfl⟩ := h_34
      refine jr_bipush (6) dX9_deal_37 (by decide) ?_
      refine jr_irem dX9_deal_39 (by decide) ?_
      refine jr_istore_3 dX9_deal_40 (by decide) rfl ?_
      refine jr_aload_n dX9_deal_41 rfl ?_
      refine jc_Vi (c_drawn g _ (by exact hw1)) lkX9_141 (hw1.k rfl) rfl rfl (Nat.le_of_ble_eq_true rfl) (Nat.le_of_ble_eq_true rfl) dX9_deal_42 (fun r_42 w_42 h_42 => ?_)
      obtain ⟨rfl, rfl⟩ := h_42
      refine jr_bipush (10) dX9_deal_45 (by decide) ?_
      refine jr_irem dX9_deal_47 (by decide) ?_
      refine jr_istore_4 dX9_deal_48 (by decide) rfl ?_
      refine jr_aload_n dX9_deal_50 rfl ?_
      refine jr_iload_n dX9_deal_51 rfl ?_
      refine jr_iload dX9_deal_52 rfl ?_
      refine jr_aload_n dX9_deal_54 rfl ?_
      refine jc_Vi (c_drawn g _ (by exact hw1)) lkX9_141 (hw1.k rfl) rfl rfl (Nat.le_of_ble_eq_true rfl) (Nat.le_of_ble_eq_true rfl) dX9_deal_55 (fun r_55 w_55 h_55 => ?_)
      obtain ⟨rfl, rfl⟩ := h_55
      refine jr_bipush (10) dX9_deal_58 (by decide) ?_
      refine jr_irem dX9_deal_60 (by decide) ?_
      refine jc_Vv (c_comes g _ (by exact hw1) (sN s 0 + i) (by omega) (by simp only [wI_sR_s]; rw [pk_un (by decide), pk_un (by decide), pk_un (by decide), hr]; exact ei) _ _ _) lkX9_85 (hw1.k rfl) rfl rfl (Nat.le_of_ble_eq_true rfl) (Nat.le_of_ble_eq_true rfl) dX9_deal_61 (fun w_61 h_61 => ?_)
      obtain rfl := h_61
      refine jr_iinc_2 (nI (i + 1)) dX9_deal_64 (inc1 i) (by decide) rfl ?_
      refine jr_goto 17 dX9_deal_67 (by decide) ?_
      refine ih (i + 1) _ _ _ (by omega) rfl ?_ ((((hS.tr (Sm.sR (Or.inl rfl))).tr (Sm.sR (Or.inl rfl))).tr (Sm.sR (Or.inl rfl))).tr (Sm.sR (Or.inl rfl)))
      simp only [wI_sR_s, hr, pk_us]
      show _ = dl1 (dlR s i)
      rw [dl1, sN_of ei (by omega)]
      rfl
  refine jr_iload_n dX9_deal_0 rfl ?_
  refine jr_i2l dX9_deal_1 ?_
  refine jr_lconst 1 dX9_deal_2 (by decide) ?_
  refine jr_ldc2 (6) ckX9_139 dX9_deal_3 ?_
  refine jc_Si (c_isInI g _ _ _ _) lkX9_68 rfl rfl (Nat.le_of_ble_eq_true rfl) (Nat.le_of_ble_eq_true rfl) dX9_deal_6 (fun r_6 w_6 h_6 => ?_)
  obtain ⟨rfl, rfl⟩ := h_6
  refine jr_if_ne 15 dX9_deal_9 (by decide) (fun c_9 => ?_) (fun c_9 => ?_)
  · rw [jb_1] at c_9
    simp only [Int64.reduceToInt] at c_9
    obtain ⟨m, hm, en⟩ := i_of (n := 7) (x := n) (by omega) (by omega)
    have em : (nI m).toInt = m := i_nI (by omega)
    have hm1 : 1 ≤ m := by rw [en, em] at c_9; omega
    refine jr_iconst (0) dX9_deal_15 (by decide) ?_
    refine jr_istore_2 dX9_deal_16 (by decide) rfl ?_
    exact L m hm1 (by omega) en (min m (6 - sN s 0)) 0 w none none (by omega) rfl hs Sm.rf
  · rw [jb_0] at c_9
    simp only [Int64.reduceToInt] at c_9
    refine jr_ldc (-1000000001) ckX9_83 dX9_deal_12 ?_
    refine jr_iret rfl dX9_deal_14 ?_
    exact hQ _ _ (fin2 (by rw [F_deal, if_neg (by unfold inR; omega)]) (MS.rf hs))
def F_minutes (s : Nat → Int32) (n : Int32) : Ro := if inR n 1 100 then (goM s (min n.toNatClampNeg (9999 - sN s 2)) 3 - s 3, goM s (min n.toNatClampNeg (9999 - sN s 2))) else (-1000000001, s)
theorem m_minutes (g : Cx) (w : Wd) (hw : Wf w) (s : Nat → Int32) (hs : wI w 79 = s) (hG : Gd s) (h99 : sN s 2 ≤ 9999) (n : Int32) : CI g yX9_minutes cX9_minutes 4 (some .int) 8 0 0 [.ref (gb g + 78), .int n] w (fun r w' => r = (F_minutes s n).1 ∧ MS w w' (F_minutes s n).2) := by
  obtain ⟨-, -, hmi, -⟩ := id hG
  have emi := hmi.1
  refine CI.of (own := RX9) (nm := "minutes") (lv := [some (.ref (gb g + 78)), some (.int n), none, none]) (by decide) rfl rfl (Nat.le_of_ble_eq_true rfl) rfl (fun Q hQ => ?_)
  have hG2 := fun k hk => (Gd_goM hG k hk).1
  refine jr_iload_n dX9_minutes_0 rfl ?_
  refine jr_i2l dX9_minutes_1 ?_
  refine jr_lconst 1 dX9_minutes_2 (by decide) ?_
  refine jr_ldc2 (100) ckX9_137 dX9_minutes_3 ?_
  refine jc_Si (c_isInI g _ _ _ _) lkX9_68 rfl rfl (Nat.le_of_ble_eq_true rfl) (Nat.le_of_ble_eq_true rfl) dX9_minutes_6 (fun r_6 w_6 h_6 => ?_)
  obtain ⟨rfl, rfl⟩ := h_6
  refine jr_if_ne 15 dX9_minutes_9 (by decide) (fun c_9 => ?_) (fun c_9 => ?_)
  · rw [jb_1] at c_9
    simp only [Int64.reduceToInt] at c_9
    obtain ⟨m, hm, en⟩ := i_of (n := 101) (x := n) (by omega) (by omega)
    have em : (nI m).toInt = m := i_nI (by omega)
    have hm1 : 1 ≤ m := by rw [en, em] at c_9; omega
    subst en
    have hl : (9999 : Int32) - nI (sN s 2) = nI (9999 - sN s 2) := by rw [jlit 9999, pk_sub h99]
    have el : (nI (9999 - sN s 2)).toInt = ((9999 - sN s 2 : Nat) : Int) := i_nI (by omega)
    refine jr_aload_n dX9_minutes_15 rfl ?_
    refine gfX9_7 79 dX9_minutes_16 (hw.k rfl) (hw.f rfl) ?_
    refine jr_iconst (3) dX9_minutes_19 (by decide) ?_
    refine jr_iald 3 (hw.k rfl) rfl (by decide) dX9_minutes_20 ?_
    rw [hs]
    refine jr_istore_2 dX9_minutes_21 (by decide) rfl ?_
    refine jr_sipush (9999) dX9_minutes_22 (by decide) ?_
    refine jr_aload_n dX9_minutes_25 rfl ?_
    refine gfX9_7 79 dX9_minutes_26 (hw.k rfl) (hw.f rfl) ?_
    refine jr_iconst (2) dX9_minutes_29 (by decide) ?_
    refine jr_iald 2 (hw.k rfl) rfl (by decide) dX9_minutes_30 ?_
    refine jr_isub dX9_minutes_31 ?_
    rw [hs, emi, hl]
    refine jr_istore_3 dX9_minutes_32 (by decide) rfl ?_
    refine jr_aload_n dX9_minutes_33 rfl ?_
    refine jr_iload_n dX9_minutes_34 rfl ?_
    refine jr_iload_n dX9_minutes_35 rfl ?_
    refine jr_icmp_ge 43 dX9_minutes_36 (by decide) (fun c_36 => ?_) (fun c_36 => ?_)
    · simp only [lt_i, le_i, eq_i, Int32.reduceToInt] at c_36
      have hx : min m (9999 - sN s 2) = 9999 - sN s 2 := by omega
      refine jr_iload_n dX9_minutes_43 rfl ?_
      refine jc_Vv (c_goesOnMany g _ hw s hs _ (by omega) (fun i hi => hG2 i (by omega))) lkX9_147 (hw.k rfl) rfl rfl (Nat.le_of_ble_eq_true rfl) (Nat.le_of_ble_eq_true rfl) dX9_minutes_44 (fun w_44 h_44 => ?_)
      obtain ⟨hr, hS⟩ := h_44
      have hw2 := hS.wf hw
      refine jr_aload_n dX9_minutes_47 rfl ?_
      refine gfX9_7 79 dX9_minutes_48 (hw2.k rfl) (hw2.f rfl) ?_
      refine jr_iconst (3) dX9_minutes_51 (by decide) ?_
      refine jr_iald 3 (hw2.k rfl) rfl (by decide) dX9_minutes_52 ?_
      refine jr_iload_n dX9_minutes_53 rfl ?_
      refine jr_isub dX9_minutes_54 ?_
      refine jr_iret rfl dX9_minutes_55 ?_
      refine hQ _ _ (fin2 (s' := goM s _) ?_ ⟨hr, hS.mono (fun _ q => scS_P q)⟩)
      rw [F_minutes, if_pos (by unfold inR; omega), nI_clamp (by omega), hx, hr]
    · simp only [lt_i, le_i, eq_i, Int32.reduceToInt] at c_36
      have hx : min m (9999 - sN s 2) = m := by omega
      refine jr_iload_n dX9_minutes_39 rfl ?_
      refine jr_goto 44 dX9_minutes_40 (by decide) ?_
      refine jc_Vv (c_goesOnMany g _ hw s hs _ (by omega) (fun i hi => hG2 i (by omega))) lkX9_147 (hw.k rfl) rfl rfl (Nat.le_of_ble_eq_true rfl) (Nat.le_of_ble_eq_true rfl) dX9_minutes_44 (fun w_44 h_44 => ?_)
      obtain ⟨hr, hS⟩ := h_44
      have hw2 := hS.wf hw
      refine jr_aload_n dX9_minutes_47 rfl ?_
      refine gfX9_7 79 dX9_minutes_48 (hw2.k rfl) (hw2.f rfl) ?_
      refine jr_iconst (3) dX9_minutes_51 (by decide) ?_
      refine jr_iald 3 (hw2.k rfl) rfl (by decide) dX9_minutes_52 ?_
      refine jr_iload_n dX9_minutes_53 rfl ?_
      refine jr_isub dX9_minutes_54 ?_
      refine jr_iret rfl dX9_minutes_55 ?_
      refine hQ _ _ (fin2 (s' := goM s _) ?_ ⟨hr, hS.mono (fun _ q => scS_P q)⟩)
      rw [F_minutes, if_pos (by unfold inR; omega), nI_clamp (by omega), hx, hr]
  · rw [jb_0] at c_9
    simp only [Int64.reduceToInt] at c_9
    refine jr_ldc (-1000000001) ckX9_83 dX9_minutes_12 ?_
    refine jr_iret rfl dX9_minutes_14 ?_
    exact hQ _ _ (fin2 (by rw [F_minutes, if_neg (by unfold inR; omega)]) (MS.rf hs))
def totT (s : Nat → Int32) (t : Nat) : Nat := totF s t (sN s 0)
def fitP (s : Nat → Int32) (T : Nat → Nat) (t : Nat) : Bool := fitB s T t (sN s 8)
def F_fits (s : Nat → Int32) (x : Int32) : Int32 := if inR x 0 719 then jb (fitP s (totT s) x.toNatClampNeg = true) else -1000000001
theorem m_fits (g : Cx) (w : Wd) (hw : Wf w) (s : Nat → Int32) (hs : wI w 79 = s) (hG : Gd s) (x : Int32) : CI g yX9_fits cX9_fits 2 (some .int) 7 0 0 [.ref (gb g + 78), .int x] w (fun r w' => r = F_fits s x ∧ MS w w' s) := by
  refine CI.of (own := RX9) (nm := "fits") (lv := [some (.ref (gb g + 78)), some (.int x)]) (by decide) rfl rfl (Nat.le_of_ble_eq_true rfl) rfl (fun Q hQ => ?_)
  refine jr_iload_n dX9_fits_0 rfl ?_
  refine jc_Si (c_isTime g _ _) lkX9_131 rfl rfl (Nat.le_of_ble_eq_true rfl) (Nat.le_of_ble_eq_true rfl) dX9_fits_1 (fun r_1 w_1 h_1 => ?_)
  obtain ⟨rfl, rfl⟩ := h_1
  refine jr_if_ne 10 dX9_fits_4 (by decide) (fun c_4 => ?_) (fun c_4 => ?_)
  · rw [jb_1] at c_4
    obtain ⟨t, ht, ex⟩ := i_of (n := 720) c_4.1 c_4.2
    subst ex
    refine jr_aload_n dX9_fits_10 rfl ?_
    refine jc_Vv (c_findAll g _ hw s hs hG) lkX9_161 (hw.k rfl) rfl rfl (Nat.le_of_ble_eq_true rfl) (Nat.le_of_ble_eq_true rfl) dX9_fits_11 (fun w_11 h_11 => ?_)
    obtain ⟨hA, hS⟩ := h_11
    refine jr_aload_n dX9_fits_14 rfl ?_
    refine jr_iload_n dX9_fits_15 rfl ?_
    refine jc_Vi (c_doesFit g _ (hS.wf hw) s ((hS.row (scA_n (by decide))).trans hs) hG _ (tot_1000 hG) hA t ht) lkX9_155 ((hS.wf hw).k rfl) rfl rfl (Nat.le_of_ble_eq_true rfl) (Nat.le_of_ble_eq_true rfl) dX9_fits_16 (fun r_16 w_16 h_16 => ?_)
    obtain ⟨rfl, rfl⟩ := h_16
    refine jr_if_eq 26 dX9_fits_19 (by decide) (fun c_19 => ?_) (fun c_19 => ?_)
    · rw [jb_0] at c_19
      refine jr_iconst (0) dX9_fits_26 (by decide) ?_
      refine jr_iret rfl dX9_fits_27 ?_
      first | exact hQ _ _ ⟨by rw [F_fits, if_pos (by unfold inR; omega), nI_clamp (by omega)]; exact jb_t' c_19, MS.a hs hS⟩ | exact hQ _ _ ⟨by rw [F_fits, if_pos (by unfold inR; omega), nI_clamp (by omega)]; exact jb_f' c_19, MS.a hs hS⟩
    · rw [jb_1] at c_19
      refine jr_iconst (1) dX9_fits_22 (by decide) ?_
      refine jr_goto 27 dX9_fits_23 (by decide) ?_
      refine jr_iret rfl dX9_fits_27 ?_
      first | exact hQ _ _ ⟨by rw [F_fits, if_pos (by unfold inR; omega), nI_clamp (by omega)]; exact jb_t' c_19, MS.a hs hS⟩ | exact hQ _ _ ⟨by rw [F_fits, if_pos (by unfold inR; omega), nI_clamp (by omega)]; exact jb_f' c_19, MS.a hs hS⟩
  · rw [jb_0] at c_4
    refine jr_ldc (-1000000001) ckX9_83 dX9_fits_7 ?_
    refine jr_iret rfl dX9_fits_9 ?_
    exact hQ _ _ ⟨by rw [F_fits, if_neg (by unfold inR; omega)], MS.rf hs⟩
/-- the first of n that p takes; n for none -/
def fstB (p : Nat → Bool) : Nat → Nat
  | 0 => 0
  | n + 1 => if fstB p n < n then fstB p n else if p n = true then n else n + 1
theorem fstB_none {p : Nat → Bool} : ∀ {n : Nat}, (∀ j, j < n → p j = false) → fstB p n = n
  | 0, _ => rfl
  | n + 1, h => by
    simp only [fstB]
    rw [fstB_none (fun j hj => h j (by omega)), if_neg (by omega), if_neg (by rw [h n (by omega)]; decide)]
theorem fstB_at {p : Nat → Bool} {t : Nat} (h : ∀ j, j < t → p j = false) (ht : p t = true) : ∀ {n : Nat}, t < n → fstB p n = t
  | 0, hn => absurd hn (by omega)
  | n + 1, hn => by
    simp only [fstB]
    by_cases e : t = n
    · subst e
      rw [fstB_none h, if_neg (by omega), if_pos ht]
    · rw [fstB_at h ht (n := n) (by omega), if_pos (by omega)]
abbrev sureX (x : Int32) : Prop := ¬ x = 0 ∧ x &&& (x - 1) = 0
def F_may (s : Nat → Int32) (x : Int32) : Int32 :=
  if inR x 0 3 then (if x.toInt = 0 then nI (cntB (fitP s (totT s)) 720) else if x.toInt = 1 then hrsB (fitP s (totT s)) 720 else if x.toInt = 3 then jb (sureX (hrsB (fitP s (totT s)) 720)) else if fstB (fitP s (totT s)) 720 < 720 then nI (fstB (fitP s (totT s)) 720) else -1000000005) else -1000000001
theorem m_may (g : Cx) (w : Wd) (hw : Wf w) (s : Nat → Int32) (hs : wI w 79 = s) (hG : Gd s) (x : Int32) : CI g yX9_may cX9_may 3 (some .int) 7 0 0 [.ref (gb g + 78), .int x] w (fun r w' => r = F_may s x ∧ MS w w' s) := by
  refine CI.of (own := RX9) (nm := "may") (lv := [some (.ref (gb g + 78)), some (.int x), none]) (by decide) rfl rfl (Nat.le_of_ble_eq_true rfl) rfl (fun Q hQ => ?_)
  have L : ∀ (w1 : Wd), Sm scA w w1 → AllR (wI w1 90) (fun t => totF s t (sN s 0)) → inR x 0 3 → x.toInt ≠ 0 → x.toInt ≠ 1 → x.toInt ≠ 3 → ∀ (f t : Nat), f + t = 720 → (∀ j, j < t → fitP s (totT s) j = false) → RR g RX9 cX9_may 3 (some .int) "may" 7 0 0 0 0 58 [some (.ref (gb g + 78)), some (.int x), some (.int (nI t))] [] w1 Q := by
    intro w1 hS hA hx h0 h1 h3 f
    have hw2 := hS.wf hw
    have hs1 : wI w1 79 = s := (hS.row (scA_n (by decide))).trans hs
    induction f with
    | zero =>
      intro t ht hj
      have e : t = 720 := by omega
      subst e
      refine jr_iload_n dX9_may_58 rfl ?_
      refine jr_sipush (720) dX9_may_59 (by decide) ?_
      refine jr_icmp_ge 79 dX9_may_62 (by decide) (fun c_62 => ?_) (fun c_62 => absurd (by decide) c_62)
      refine jr_iload_n dX9_may_79 rfl ?_
      refine jr_sipush (720) dX9_may_80 (by decide) ?_
      refine jr_icmp_ge 90 dX9_may_83 (by decide) (fun c_83 => ?_) (fun c_83 => absurd (by decide) c_83)
      refine jr_ldc (-1000000005) ckX9_67 dX9_may_90 ?_
      refine jr_iret rfl dX9_may_92 ?_
      exact hQ _ _ ⟨by rw [F_may, if_pos hx, if_neg h0, if_neg h1, if_neg h3, fstB_none hj, if_neg (by decide)], MS.a hs hS⟩
    | succ f ih =>
      intro t ht hj
      by_cases hp : fitP s (totT s) t = true
      · have hf := fstB_at hj hp (n := 720) (by omega)
        refine jr_iload_n dX9_may_58 rfl ?_
        refine jr_sipush (720) dX9_may_59 (by decide) ?_
        refine jr_icmp_ge 79 dX9_may_62 (by decide) (fun c_62 => absurd c_62 (nI_ge (b := 720) (by omega) (by omega))) (fun c_62 => ?_)
        refine jr_aload_n dX9_may_65 rfl ?_
        refine jr_iload_n dX9_may_66 rfl ?_
        refine jc_Vi (c_doesFit g _ hw2 s hs1 hG _ (tot_1000 hG) hA t (by omega)) lkX9_155 (hw2.k rfl) rfl rfl (Nat.le_of_ble_eq_true rfl) (Nat.le_of_ble_eq_true rfl) dX9_may_67 (fun r_67 w_67 h_67 => ?_)
        obtain ⟨rfl, rfl⟩ := h_67
        refine jr_if_ne 79 dX9_may_70 (by decide) (fun c_70 => ?_) (fun c_70 => absurd c_70 (jb_1.mpr hp))
        refine jr_iload_n dX9_may_79 rfl ?_
        refine jr_sipush (720) dX9_may_80 (by decide) ?_
        refine jr_icmp_ge 90 dX9_may_83 (by decide) (fun c_83 => absurd c_83 (nI_ge (b := 720) (by omega) (by omega))) (fun c_83 => ?_)
        refine jr_iload_n dX9_may_86 rfl ?_
        refine jr_goto 92 dX9_may_87 (by decide) ?_
        refine jr_iret rfl dX9_may_92 ?_
        exact hQ _ _ ⟨by rw [F_may, if_pos hx, if_neg h0, if_neg h1, if_neg h3, hf, if_pos (by omega)], MS.a hs hS⟩
      · refine jr_iload_n dX9_may_58 rfl ?_
        refine jr_sipush (720) dX9_may_59 (by decide) ?_
        refine jr_icmp_ge 79 dX9_may_62 (by decide) (fun c_62 => absurd c_62 (nI_ge (b := 720) (by omega) (by omega))) (fun c_62 => ?_)
        refine jr_aload_n dX9_may_65 rfl ?_
        refine jr_iload_n dX9_may_66 rfl ?_
        refine jc_Vi (c_doesFit g _ hw2 s hs1 hG _ (tot_1000 hG) hA t (by omega)) lkX9_155 (hw2.k rfl) rfl rfl (Nat.le_of_ble_eq_true rfl) (Nat.le_of_ble_eq_true rfl) dX9_may_67 (fun r_67 w_67 h_67 => ?_)
        obtain ⟨rfl, rfl⟩ := h_67
        refine jr_if_ne 79 dX9_may_70 (by decide) (fun c_70 => absurd (jb_f hp) c_70) (fun c_70 => ?_)
        refine jr_iinc_2 (nI (t + 1)) dX9_may_73 (inc1 t) (by decide) rfl ?_
        refine jr_goto 58 dX9_may_76 (by decide) ?_
        refine ih (t + 1) (by omega) (fun j hj2 => ?_)
        by_cases e : j = t
        · rw [e]; simpa using hp
        · exact hj j (by omega)
  refine jr_iload_n dX9_may_0 rfl ?_
  refine jr_i2l dX9_may_1 ?_
  refine jr_lconst 0 dX9_may_2 (by decide) ?_
  refine jr_ldc2 (3) ckX9_151 dX9_may_3 ?_
  refine jc_Si (c_isInI g _ _ _ _) lkX9_68 rfl rfl (Nat.le_of_ble_eq_true rfl) (Nat.le_of_ble_eq_true rfl) dX9_may_6 (fun r_6 w_6 h_6 => ?_)
  obtain ⟨rfl, rfl⟩ := h_6
  refine jr_if_ne 15 dX9_may_9 (by decide) (fun c_9 => ?_) (fun c_9 => ?_)
  · rw [jb_1] at c_9
    simp only [Int64.reduceToInt] at c_9
    refine jr_aload_n dX9_may_15 rfl ?_
    refine jc_Vv (c_findAll g _ hw s hs hG) lkX9_161 (hw.k rfl) rfl rfl (Nat.le_of_ble_eq_true rfl) (Nat.le_of_ble_eq_true rfl) dX9_may_16 (fun w_16 h_16 => ?_)
    obtain ⟨hA, hS⟩ := h_16
    have hw2 := hS.wf hw
    have hs1 : wI w_16 79 = s := (hS.row (scA_n (by decide))).trans hs
    refine jr_iload_n dX9_may_19 rfl ?_
    refine jr_if_ne 28 dX9_may_20 (by decide) (fun c_20 => ?_) (fun c_20 => ?_)
    · simp only [lt_i, le_i, eq_i, Int32.reduceToInt] at c_20
      refine jr_iload_n dX9_may_28 rfl ?_
      refine jr_iconst (1) dX9_may_29 (by decide) ?_
      refine jr_icmp_ne 38 dX9_may_30 (by decide) (fun c_30 => ?_) (fun c_30 => ?_)
      · simp only [lt_i, le_i, eq_i, Int32.reduceToInt] at c_30
        refine jr_iload_n dX9_may_38 rfl ?_
        refine jr_iconst (3) dX9_may_39 (by decide) ?_
        refine jr_icmp_ne 56 dX9_may_40 (by decide) (fun c_40 => ?_) (fun c_40 => ?_)
        · simp only [lt_i, le_i, eq_i, Int32.reduceToInt] at c_40
          refine jr_iconst (0) dX9_may_56 (by decide) ?_
          refine jr_istore_2 dX9_may_57 (by decide) rfl ?_
          exact L _ hS hA (by unfold inR; omega) (by omega) (by omega) (by omega) 720 0 rfl (fun j hj => absurd hj (by omega))
        · simp only [lt_i, le_i, eq_i, Int32.reduceToInt] at c_40
          refine jr_aload_n dX9_may_43 rfl ?_
          refine jc_Vi (c_misSure g _ hw2 s hs1 hG _ (tot_1000 hG) hA) lkX9_167 (hw2.k rfl) rfl rfl (Nat.le_of_ble_eq_true rfl) (Nat.le_of_ble_eq_true rfl) dX9_may_44 (fun r_44 w_44 h_44 => ?_)
          obtain ⟨rfl, rfl⟩ := h_44
          refine jr_if_eq 54 dX9_may_47 (by decide) (fun c_47 => ?_) (fun c_47 => ?_)
          · rw [jb_0] at c_47
            refine jr_iconst (0) dX9_may_54 (by decide) ?_
            refine jr_iret rfl dX9_may_55 ?_
            refine hQ _ _ ⟨?_, MS.a hs hS⟩
            rw [F_may, if_pos (by unfold inR; omega), if_neg (by omega), if_neg (by omega), if_pos (by omega)]
            first | exact jb_t' c_47 | exact jb_f' c_47
          · rw [jb_1] at c_47
            refine jr_iconst (1) dX9_may_50 (by decide) ?_
            refine jr_goto 55 dX9_may_51 (by decide) ?_
            refine jr_iret rfl dX9_may_55 ?_
            refine hQ _ _ ⟨?_, MS.a hs hS⟩
            rw [F_may, if_pos (by unfold inR; omega), if_neg (by omega), if_neg (by omega), if_pos (by omega)]
            first | exact jb_t' c_47 | exact jb_f' c_47
      · simp only [lt_i, le_i, eq_i, Int32.reduceToInt] at c_30
        refine jr_aload_n dX9_may_33 rfl ?_
        refine jc_Vi (c_hoursFit g _ hw2 s hs1 hG _ (tot_1000 hG) hA) lkX9_158 (hw2.k rfl) rfl rfl (Nat.le_of_ble_eq_true rfl) (Nat.le_of_ble_eq_true rfl) dX9_may_34 (fun r_34 w_34 h_34 => ?_)
        obtain ⟨rfl, rfl⟩ := h_34
        refine jr_iret rfl dX9_may_37 ?_
        exact hQ _ _ ⟨by rw [F_may, if_pos (by unfold inR; omega), if_neg (by omega), if_pos (by omega)]; rfl, MS.a hs hS⟩
    · simp only [lt_i, le_i, eq_i, Int32.reduceToInt] at c_20
      refine jr_aload_n dX9_may_23 rfl ?_
      refine jc_Vi (c_manyFit g _ hw2 s hs1 hG _ (tot_1000 hG) hA) lkX9_164 (hw2.k rfl) rfl rfl (Nat.le_of_ble_eq_true rfl) (Nat.le_of_ble_eq_true rfl) dX9_may_24 (fun r_24 w_24 h_24 => ?_)
      obtain ⟨rfl, rfl⟩ := h_24
      refine jr_iret rfl dX9_may_27 ?_
      exact hQ _ _ ⟨by rw [F_may, if_pos (by unfold inR; omega), if_pos (by omega)]; rfl, MS.a hs hS⟩
  · rw [jb_0] at c_9
    simp only [Int64.reduceToInt] at c_9
    refine jr_ldc (-1000000001) ckX9_83 dX9_may_12 ?_
    refine jr_iret rfl dX9_may_14 ?_
    exact hQ _ _ ⟨by rw [F_may, if_neg (by unfold inR; omega)], MS.rf hs⟩
def nxP (s : Nat → Int32) (j : Nat) : Bool := decide (0 < totT s ((sN s 2 + j) % 720))
def F_next (s : Nat → Int32) : Int32 := if fstB (nxP s) 60 < 60 then nI (fstB (nxP s) 60 + 1) else -1000000005
theorem m_next (g : Cx) (w : Wd) (hw : Wf w) (s : Nat → Int32) (hs : wI w 79 = s) (hG : Gd s) : CI g yX9_next cX9_next 2 (some .int) 6 0 0 [.ref (gb g + 78)] w (fun r w' => r = F_next s ∧ MS w w' s) := by
  obtain ⟨-, -, hmi, -⟩ := id hG
  refine CI.of (own := RX9) (nm := "next") (lv := [some (.ref (gb g + 78)), none]) (by decide) rfl rfl (Nat.le_of_ble_eq_true rfl) rfl (fun Q hQ => ?_)
  have L : ∀ (f t : Nat) (w1 : Wd), f + t = 60 → Sm scM w w1 → (∀ j, j < t → nxP s j = false) → RR g RX9 cX9_next 2 (some .int) "next" 6 0 0 0 0 2 [some (.ref (gb g + 78)), some (.int (nI (t + 1)))] [] w1 Q := by
    intro f
    induction f with
    | zero =>
      intro t w1 ht hS hj
      have e : t = 60 := by omega
      subst e
      refine jr_iload_n dX9_next_2 rfl ?_
      refine jr_bipush (60) dX9_next_3 (by decide) ?_
      refine jr_icmp_gt 33 dX9_next_5 (by decide) (fun c_5 => ?_) (fun c_5 => absurd (by decide) c_5)
      refine jr_iload_n dX9_next_33 rfl ?_
      refine jr_bipush (60) dX9_next_34 (by decide) ?_
      refine jr_icmp_gt 43 dX9_next_36 (by decide) (fun c_36 => ?_) (fun c_36 => absurd (by decide) c_36)
      refine jr_ldc (-1000000005) ckX9_67 dX9_next_43 ?_
      refine jr_iret rfl dX9_next_45 ?_
      exact hQ _ _ ⟨by rw [F_next, fstB_none hj, if_neg (by decide)], MS.m hs hS⟩
    | succ f ih =>
      intro t w1 ht hS hj
      have hw1 := hS.wf hw
      have hs1 : wI w1 79 = s := (hS.row (scM_n (by decide))).trans hs
      have hx : nI (sN s 2 % 720) + nI (t + 1) - 1 - (nI (sN s 2 % 720) + nI (t + 1) - 1) / 720 * 720 = nI ((sN s 2 + t) % 720) := by
        rw [nI_add, sub1 (by omega), jlit 720, pk_rem (by omega) (by decide) (by decide), show sN s 2 % 720 + (t + 1) - 1 = sN s 2 % 720 + t by omega, Nat.mod_add_mod]
      have hlt : (sN s 2 + t) % 720 < 720 := Nat.mod_lt _ (by decide)
      have hle := tot_1000 hG ((sN s 2 + t) % 720)
      have eT := i_nI (n := totF s ((sN s 2 + t) % 720) (sN s 0)) (by omega)
      refine jr_iload_n dX9_next_2 rfl ?_
      refine jr_bipush (60) dX9_next_3 (by decide) ?_
      refine jr_icmp_gt 33 dX9_next_5 (by decide) (fun c_5 => absurd c_5 (nI_nlt (a := 60) (by omega) (by omega))) (fun c_5 => ?_)
      refine jr_aload_n dX9_next_8 rfl ?_
      refine jr_aload_n dX9_next_9 rfl ?_
      refine jc_Vi (c_mtimeNow g _ hw1 (sN s 2) (by have := hmi.2; omega) (by rw [hs1]; exact hmi.1)) lkX9_111 (hw1.k rfl) rfl rfl (Nat.le_of_ble_eq_true rfl) (Nat.le_of_ble_eq_true rfl) dX9_next_10 (fun r_10 w_10 h_10 => ?_)
      obtain ⟨rfl, rfl⟩ := h_10
      refine jr_iload_n dX9_next_13 rfl ?_
      refine jr_iadd dX9_next_14 ?_
      refine jr_iconst (1) dX9_next_15 (by decide) ?_
      refine jr_isub dX9_next_16 ?_
      refine jr_sipush (720) dX9_next_17 (by decide) ?_
      refine jr_irem dX9_next_20 (by decide) ?_
      rw [hx]
      refine jc_Vi (c_mtotalAt g _ hw1 s hs1 hG _ hlt) lkX9_134 (hw1.k rfl) rfl rfl (Nat.le_of_ble_eq_true rfl) (Nat.le_of_ble_eq_true rfl) dX9_next_21 (fun r_21 w_21 h_21 => ?_)
      obtain ⟨rfl, hS2⟩ := h_21
      refine jr_if_ne 33 dX9_next_24 (by decide) (fun c_24 => ?_) (fun c_24 => ?_)
      · simp only [lt_i, le_i, eq_i, Int32.reduceToInt] at c_24
        have hp : nxP s t = true := by unfold nxP totT; rw [decide_eq_true_eq]; omega
        refine jr_iload_n dX9_next_33 rfl ?_
        refine jr_bipush (60) dX9_next_34 (by decide) ?_
        refine jr_icmp_gt 43 dX9_next_36 (by decide) (fun c_36 => absurd c_36 (nI_nlt (a := 60) (by omega) (by omega))) (fun c_36 => ?_)
        refine jr_iload_n dX9_next_39 rfl ?_
        refine jr_goto 45 dX9_next_40 (by decide) ?_
        refine jr_iret rfl dX9_next_45 ?_
        exact hQ _ _ ⟨by rw [F_next, fstB_at hj hp (n := 60) (by omega), if_pos (by omega)], MS.m hs (hS.tr hS2)⟩
      · simp only [lt_i, le_i, eq_i, Int32.reduceToInt] at c_24
        refine jr_iinc_1 (nI (t + 1 + 1)) dX9_next_27 (inc1 _) (by decide) rfl ?_
        refine jr_goto 2 dX9_next_30 (by decide) ?_
        refine ih (t + 1) _ (by omega) (hS.tr hS2) (fun j hj2 => ?_)
        by_cases e : j = t
        · rw [e]; unfold nxP totT; rw [decide_eq_false_iff_not]; omega
        · exact hj j (by omega)
  refine jr_iconst (1) dX9_next_0 (by decide) ?_
  refine jr_istore_1 dX9_next_1 (by decide) rfl ?_
  exact L 60 0 w rfl Sm.rf (fun j hj => absurd hj (by omega))
