-- the reference: the calls on clocks and minutes
/-- what the reference's own calls may change beside s: its rows for work -/
def scP : Nat → Prop := fun i => i = 79 ∨ i = 81 ∨ i = 90 ∨ i = 91 ∨ i = 93 ∨ i = 94 ∨ i = 95 ∨ i = 97
theorem scM_P {i : Nat} (h : scM i) : scP i := by unfold scP; rcases h with h | h <;> omega
theorem scS_P {i : Nat} (h : scS i) : scP i := by unfold scP; rcases h with h | h | h <;> omega
theorem scA_P {i : Nat} (h : scA i) : scP i := by unfold scP; rcases h with h | h | h <;> omega
def MS (w w' : Wd) (s' : Nat → Int32) : Prop := wI w' 79 = s' ∧ Sm scP w w'
theorem MS.rf {w : Wd} {s : Nat → Int32} (hs : wI w 79 = s) : MS w w s := ⟨hs, Sm.rf⟩
theorem MS.m {w w' : Wd} {s : Nat → Int32} (hs : wI w 79 = s) (h : Sm scM w w') : MS w w' s := ⟨(h.row (scM_n (by decide))).trans hs, h.mono (fun _ q => scM_P q)⟩
theorem MS.a {w w' : Wd} {s : Nat → Int32} (hs : wI w 79 = s) (h : Sm scA w w') : MS w w' s := ⟨(h.row (scA_n (by decide))).trans hs, h.mono (fun _ q => scA_P q)⟩
theorem MS.s {w : Wd} {f : Nat → Int32} : MS w (sR w 79 f) f := ⟨wI_sR_s _ _ _, Sm.sR (Or.inl rfl)⟩
abbrev isC (s : Nat → Int32) (x : Int32) : Prop := 0 ≤ x.toInt ∧ x.toInt < sN s 0
abbrev inR (x : Int32) (lo hi : Int) : Prop := lo ≤ x.toInt ∧ x.toInt ≤ hi
abbrev Ro : Type := Int32 × (Nat → Int32)
theorem fin2 {P : Ro} {w w' : Wd} {r : Int32} {s' : Nat → Int32} (e : P = (r, s')) (h : MS w w' s') : r = P.1 ∧ MS w w' P.2 := by rw [e]; exact ⟨rfl, h⟩
def woF (kd : Nat) (o : Int32) : Int32 := if kd = 1 then o + 4 else if kd = 3 then 2 * (o + 4) else if kd = 2 then 60 - o else if kd = 4 then 55 - o else if kd = 5 then 2 else o
theorem c_mworth (g : Cx) (w : Wd) (hw : Wf w) (s : Nat → Int32) (hs : wI w 79 = s) (hC : ClkOk s) (k : Nat) (hk : k < 6) : CI g yX9_worth cX9_worth 3 (some .int) 2 0 0 [.ref (gb g + 78), .int (nI k)] w (fun r w' => r = woF (sN s (10 + 3 * k + 0)) (s (10 + 3 * k + 1)) ∧ w = w') := by
  have hkd := (hC k hk).1
  have ekd : (nI (sN s (10 + 3 * k + 0))).toInt = (sN s (10 + 3 * k + 0) : Int) := i_nI (by have := hkd.2; omega)
  refine CI.of (own := RX9) (nm := "worth") (lv := [some (.ref (gb g + 78)), some (.int (nI k)), none]) (by decide) rfl rfl (Nat.le_of_ble_eq_true rfl) rfl (fun Q hQ => ?_)
  refine jr_aload_n dX9_worth_0 rfl ?_
  refine jr_iload_n dX9_worth_1 rfl ?_
  refine jr_iconst (1) dX9_worth_2 (by decide) ?_
  refine jc_Vi (c_of g _ hw k 1 hk (by decide)) lkX9_88 (hw.k rfl) rfl rfl (Nat.le_of_ble_eq_true rfl) (Nat.le_of_ble_eq_true rfl) dX9_worth_3 (fun r_3 w_3 h_3 => ?_)
  obtain ⟨rfl, rfl⟩ := h_3
  refine jr_istore_2 dX9_worth_6 (by decide) rfl ?_
  refine jr_aload_n dX9_worth_7 rfl ?_
  refine jr_iload_n dX9_worth_8 rfl ?_
  refine jr_iconst (0) dX9_worth_9 (by decide) ?_
  refine jc_Vi (c_of g _ hw k 0 hk (by decide)) lkX9_88 (hw.k rfl) rfl rfl (Nat.le_of_ble_eq_true rfl) (Nat.le_of_ble_eq_true rfl) dX9_worth_10 (fun r_10 w_10 h_10 => ?_)
  obtain ⟨rfl, rfl⟩ := h_10
  rw [hs, hkd.1]
  refine swX9_worth_13 (fun c_13 => ?_) (fun c_13 => ?_) (fun c_13 => ?_) (fun c_13 => ?_) (fun c_13 => ?_) (fun c_13 => ?_)
  · refine jr_iload_n dX9_worth_48 rfl ?_
    refine jr_iconst (4) dX9_worth_49 (by decide) ?_
    refine jr_iadd dX9_worth_50 ?_
    refine jr_iret rfl dX9_worth_51 ?_
    refine hQ _ _ ⟨?_, rfl⟩
    unfold woF
    first | rw [if_pos (by omega)] | rw [if_neg (by omega), if_pos (by omega)] | rw [if_neg (by omega), if_neg (by omega), if_pos (by omega)] | rw [if_neg (by omega), if_neg (by omega), if_neg (by omega), if_pos (by omega)] | rw [if_neg (by omega), if_neg (by omega), if_neg (by omega), if_neg (by omega), if_pos (by omega)] | rw [if_neg (by omega), if_neg (by omega), if_neg (by omega), if_neg (by omega), if_neg (by omega)]
  · refine jr_bipush (60) dX9_worth_58 (by decide) ?_
    refine jr_iload_n dX9_worth_60 rfl ?_
    refine jr_isub dX9_worth_61 ?_
    refine jr_iret rfl dX9_worth_62 ?_
    refine hQ _ _ ⟨?_, rfl⟩
    unfold woF
    first | rw [if_pos (by omega)] | rw [if_neg (by omega), if_pos (by omega)] | rw [if_neg (by omega), if_neg (by omega), if_pos (by omega)] | rw [if_neg (by omega), if_neg (by omega), if_neg (by omega), if_pos (by omega)] | rw [if_neg (by omega), if_neg (by omega), if_neg (by omega), if_neg (by omega), if_pos (by omega)] | rw [if_neg (by omega), if_neg (by omega), if_neg (by omega), if_neg (by omega), if_neg (by omega)]
  · refine jr_iconst (2) dX9_worth_52 (by decide) ?_
    refine jr_iload_n dX9_worth_53 rfl ?_
    refine jr_iconst (4) dX9_worth_54 (by decide) ?_
    refine jr_iadd dX9_worth_55 ?_
    refine jr_imul dX9_worth_56 ?_
    refine jr_iret rfl dX9_worth_57 ?_
    refine hQ _ _ ⟨?_, rfl⟩
    unfold woF
    first | rw [if_pos (by omega)] | rw [if_neg (by omega), if_pos (by omega)] | rw [if_neg (by omega), if_neg (by omega), if_pos (by omega)] | rw [if_neg (by omega), if_neg (by omega), if_neg (by omega), if_pos (by omega)] | rw [if_neg (by omega), if_neg (by omega), if_neg (by omega), if_neg (by omega), if_pos (by omega)] | rw [if_neg (by omega), if_neg (by omega), if_neg (by omega), if_neg (by omega), if_neg (by omega)]
  · refine jr_bipush (55) dX9_worth_63 (by decide) ?_
    refine jr_iload_n dX9_worth_65 rfl ?_
    refine jr_isub dX9_worth_66 ?_
    refine jr_iret rfl dX9_worth_67 ?_
    refine hQ _ _ ⟨?_, rfl⟩
    unfold woF
    first | rw [if_pos (by omega)] | rw [if_neg (by omega), if_pos (by omega)] | rw [if_neg (by omega), if_neg (by omega), if_pos (by omega)] | rw [if_neg (by omega), if_neg (by omega), if_neg (by omega), if_pos (by omega)] | rw [if_neg (by omega), if_neg (by omega), if_neg (by omega), if_neg (by omega), if_pos (by omega)] | rw [if_neg (by omega), if_neg (by omega), if_neg (by omega), if_neg (by omega), if_neg (by omega)]
  · refine jr_iconst (2) dX9_worth_68 (by decide) ?_
    refine jr_iret rfl dX9_worth_69 ?_
    refine hQ _ _ ⟨?_, rfl⟩
    unfold woF
    first | rw [if_pos (by omega)] | rw [if_neg (by omega), if_pos (by omega)] | rw [if_neg (by omega), if_neg (by omega), if_pos (by omega)] | rw [if_neg (by omega), if_neg (by omega), if_neg (by omega), if_pos (by omega)] | rw [if_neg (by omega), if_neg (by omega), if_neg (by omega), if_neg (by omega), if_pos (by omega)] | rw [if_neg (by omega), if_neg (by omega), if_neg (by omega), if_neg (by omega), if_neg (by omega)]
  · refine jr_iload_n dX9_worth_70 rfl ?_
    refine jr_iret rfl dX9_worth_71 ?_
    refine hQ _ _ ⟨?_, rfl⟩
    unfold woF
    first | rw [if_pos (by omega)] | rw [if_neg (by omega), if_pos (by omega)] | rw [if_neg (by omega), if_neg (by omega), if_pos (by omega)] | rw [if_neg (by omega), if_neg (by omega), if_neg (by omega), if_pos (by omega)] | rw [if_neg (by omega), if_neg (by omega), if_neg (by omega), if_neg (by omega), if_pos (by omega)] | rw [if_neg (by omega), if_neg (by omega), if_neg (by omega), if_neg (by omega), if_neg (by omega)]
def F_clock (s : Nat → Int32) (kd o tn : Int32) : Ro :=
  if inR kd 0 5 ∧ inR o 0 59 ∧ inR tn 0 9 then (if sN s 0 = 6 then (-1000000003, s) else (nI (sN s 0), comesF s (sN s 0) kd o tn)) else (-1000000001, s)
theorem m_clock (g : Cx) (w : Wd) (hw : Wf w) (s : Nat → Int32) (hs : wI w 79 = s) (hG : Gd s) (kd o tn : Int32) : CI g yX9_clock cX9_clock 4 (some .int) 3 0 0 [.ref (gb g + 78), .int kd, .int o, .int tn] w (fun r w' => r = (F_clock s kd o tn).1 ∧ MS w w' (F_clock s kd o tn).2) := by
  obtain ⟨h0, -⟩ := id hG
  have h6 := h0.2
  have e0 : (nI (sN s 0)).toInt = (sN s 0 : Int) := i_nI (by omega)
  refine CI.of (own := RX9) (nm := "clock") (lv := [some (.ref (gb g + 78)), some (.int kd), some (.int o), some (.int tn)]) (by decide) rfl rfl (Nat.le_of_ble_eq_true rfl) rfl (fun Q hQ => ?_)
  refine jr_iload_n dX9_clock_0 rfl ?_
  refine jr_i2l dX9_clock_1 ?_
  refine jr_lconst 0 dX9_clock_2 (by decide) ?_
  refine jr_ldc2 (5) ckX9_77 dX9_clock_3 ?_
  refine jc_Si (c_isInI g _ _ _ _) lkX9_68 rfl rfl (Nat.le_of_ble_eq_true rfl) (Nat.le_of_ble_eq_true rfl) dX9_clock_6 (fun r_6 w_6 h_6 => ?_)
  obtain ⟨rfl, rfl⟩ := h_6
  refine jr_if_eq 36 dX9_clock_9 (by decide) (fun c_9 => ?_) (fun c_9 => ?_)
  · rw [jb_0] at c_9
    simp only [Int64.reduceToInt] at c_9
    refine jr_ldc (-1000000001) ckX9_83 dX9_clock_36 ?_
    refine jr_iret rfl dX9_clock_38 ?_
    exact hQ _ _ (fin2 (by rw [F_clock, if_neg (by unfold inR; omega)]) (MS.rf hs))
  · rw [jb_1] at c_9
    simp only [Int64.reduceToInt] at c_9
    refine jr_iload_n dX9_clock_12 rfl ?_
    refine jr_i2l dX9_clock_13 ?_
    refine jr_lconst 0 dX9_clock_14 (by decide) ?_
    refine jr_ldc2 (59) ckX9_79 dX9_clock_15 ?_
    refine jc_Si (c_isInI g _ _ _ _) lkX9_68 rfl rfl (Nat.le_of_ble_eq_true rfl) (Nat.le_of_ble_eq_true rfl) dX9_clock_18 (fun r_18 w_18 h_18 => ?_)
    obtain ⟨rfl, rfl⟩ := h_18
    refine jr_if_eq 36 dX9_clock_21 (by decide) (fun c_21 => ?_) (fun c_21 => ?_)
    · rw [jb_0] at c_21
      simp only [Int64.reduceToInt] at c_21
      refine jr_ldc (-1000000001) ckX9_83 dX9_clock_36 ?_
      refine jr_iret rfl dX9_clock_38 ?_
      exact hQ _ _ (fin2 (by rw [F_clock, if_neg (by unfold inR; omega)]) (MS.rf hs))
    · rw [jb_1] at c_21
      simp only [Int64.reduceToInt] at c_21
      refine jr_iload_n dX9_clock_24 rfl ?_
      refine jr_i2l dX9_clock_25 ?_
      refine jr_lconst 0 dX9_clock_26 (by decide) ?_
      refine jr_ldc2 (9) ckX9_81 dX9_clock_27 ?_
      refine jc_Si (c_isInI g _ _ _ _) lkX9_68 rfl rfl (Nat.le_of_ble_eq_true rfl) (Nat.le_of_ble_eq_true rfl) dX9_clock_30 (fun r_30 w_30 h_30 => ?_)
      obtain ⟨rfl, rfl⟩ := h_30
      refine jr_if_ne 39 dX9_clock_33 (by decide) (fun c_33 => ?_) (fun c_33 => ?_)
      · rw [jb_1] at c_33
        simp only [Int64.reduceToInt] at c_33
        refine jr_aload_n dX9_clock_39 rfl ?_
        refine gfX9_7 79 dX9_clock_40 (hw.k rfl) (hw.f rfl) ?_
        refine jr_iconst (0) dX9_clock_43 (by decide) ?_
        refine jr_iald 0 (hw.k rfl) rfl (by decide) dX9_clock_44 ?_
        rw [hs, h0.1]
        refine jr_bipush (6) dX9_clock_45 (by decide) ?_
        refine jr_icmp_ne 53 dX9_clock_47 (by decide) (fun c_47 => ?_) (fun c_47 => ?_)
        · simp only [lt_i, le_i, eq_i, Int32.reduceToInt] at c_47
          refine jr_aload_n dX9_clock_53 rfl ?_
          refine jr_iload_n dX9_clock_54 rfl ?_
          refine jr_iload_n dX9_clock_55 rfl ?_
          refine jr_iload_n dX9_clock_56 rfl ?_
          refine jc_Vv (c_comes g _ hw (sN s 0) (by omega) (by rw [hs]; exact h0.1) _ _ _) lkX9_85 (hw.k rfl) rfl rfl (Nat.le_of_ble_eq_true rfl) (Nat.le_of_ble_eq_true rfl) dX9_clock_57 (fun w_57 h_57 => ?_)
          obtain rfl := h_57
          refine jr_aload_n dX9_clock_60 rfl ?_
          refine gfX9_7 79 dX9_clock_61 (hw.k rfl) (hw.f rfl) ?_
          refine jr_iconst (0) dX9_clock_64 (by decide) ?_
          refine jr_iald 0 (hw.k rfl) rfl (by decide) dX9_clock_65 ?_
          refine jr_iconst (1) dX9_clock_66 (by decide) ?_
          refine jr_isub dX9_clock_67 ?_
          rw [wI_sR_s]
          refine jr_iret rfl dX9_clock_68 ?_
          refine hQ _ _ (fin2 (s' := comesF s (sN s 0) kd o tn) ?_ (by rw [hs]; exact MS.s))
          have hc : comesF (wI w 79) (sN s 0) kd o tn 0 - 1 = nI (sN s 0) := by rw [comesF, pk_un (by omega), pk_un (by omega), pk_un (by omega), pk_us, nI_pred]
          rw [F_clock, if_pos (by unfold inR; omega), if_neg (by omega), hc]
        · simp only [lt_i, le_i, eq_i, Int32.reduceToInt] at c_47
          refine jr_ldc (-1000000003) ckX9_84 dX9_clock_50 ?_
          refine jr_iret rfl dX9_clock_52 ?_
          exact hQ _ _ (fin2 (by rw [F_clock, if_pos (by unfold inR; omega), if_pos (by omega)]) (MS.rf hs))
      · rw [jb_0] at c_33
        simp only [Int64.reduceToInt] at c_33
        refine jr_ldc (-1000000001) ckX9_83 dX9_clock_36 ?_
        refine jr_iret rfl dX9_clock_38 ?_
        exact hQ _ _ (fin2 (by rw [F_clock, if_neg (by unfold inR; omega)]) (MS.rf hs))
def alS (s : Nat → Int32) (k : Nat) : Nat → Nat
  | 0 => 0
  | n + 1 => alS s k n + stkF s k n
def F_told (s : Nat → Int32) (c x : Int32) : Int32 :=
  if isC s c ∧ inR x 0 5 then
    (if x.toInt < 3 then s (10 + 3 * c.toNatClampNeg + x.toNatClampNeg) else if x.toInt = 3 then nI (stkF s c.toNatClampNeg (sN s 2 % 720)) else if x.toInt = 4 then nI (alS s c.toNatClampNeg 720) else woF (sN s (10 + 3 * c.toNatClampNeg + 0)) (s (10 + 3 * c.toNatClampNeg + 1)))
  else -1000000001
theorem m_told (g : Cx) (w : Wd) (hw : Wf w) (s : Nat → Int32) (hs : wI w 79 = s) (hG : Gd s) (c x : Int32) : CI g yX9_told cX9_told 5 (some .int) 5 0 0 [.ref (gb g + 78), .int c, .int x] w (fun r w' => r = F_told s c x ∧ MS w w' s) := by
  obtain ⟨h0, -, hmi, -, -, -, hC, -⟩ := id hG
  have h6 := h0.2
  refine CI.of (own := RX9) (nm := "told") (lv := [some (.ref (gb g + 78)), some (.int c), some (.int x), none, none]) (by decide) rfl rfl (Nat.le_of_ble_eq_true rfl) rfl (fun Q hQ => ?_)
  have L : ∀ (k : Nat), k < sN s 0 → c = nI k → x.toInt = 4 → ∀ (f t : Nat) (w1 : Wd), f + t = 720 → Sm scM w w1 → RR g RX9 cX9_told 5 (some .int) "told" 5 0 0 0 0 55 [some (.ref (gb g + 78)), some (.int c), some (.int x), some (.int (nI (alS s k t))), some (.int (nI t))] [] w1 Q := by
    intro k hk ec ex f
    subst ec
    induction f with
    | zero =>
      intro t w1 ht hS
      have e : t = 720 := by omega
      subst e
      have hw1 := hS.wf hw
      refine jr_iload dX9_told_55 rfl ?_
      refine jr_sipush (720) dX9_told_57 (by decide) ?_
      refine jr_icmp_ge 84 dX9_told_60 (by decide) (fun c_60 => ?_) (fun c_60 => absurd (by decide) c_60)
      refine jr_iload_n dX9_told_84 rfl ?_
      refine jr_iconst (4) dX9_told_85 (by decide) ?_
      refine jr_icmp_ne 93 dX9_told_86 (by decide) (fun c_86 => absurd (by rw [eq_i]; exact ex) c_86) (fun c_86 => ?_)
      refine jr_iload_n dX9_told_89 rfl ?_
      refine jr_goto 98 dX9_told_90 (by decide) ?_
      refine jr_iret rfl dX9_told_98 ?_
      refine hQ _ _ ⟨?_, MS.m hs hS⟩
      have e1 := i_nI (n := k) (by omega)
      rw [F_told, if_pos (by unfold isC inR; omega), if_neg (by omega), if_neg (by omega), if_pos (by omega), nI_clamp (by omega)]
    | succ f ih =>
      intro t w1 ht hS
      have hw1 := hS.wf hw
      have hs1 : wI w1 79 = s := (hS.row (scM_n (by decide))).trans hs
      refine jr_iload dX9_told_55 rfl ?_
      refine jr_sipush (720) dX9_told_57 (by decide) ?_
      refine jr_icmp_ge 84 dX9_told_60 (by decide) (fun c_60 => absurd c_60 (nI_ge (b := 720) (by omega) (by omega))) (fun c_60 => ?_)
      refine jr_iload_n dX9_told_63 rfl ?_
      refine jr_iconst (4) dX9_told_64 (by decide) ?_
      refine jr_icmp_ne 84 dX9_told_65 (by decide) (fun c_65 => absurd (by rw [eq_i]; exact ex) c_65) (fun c_65 => ?_)
      refine jr_iload_n dX9_told_68 rfl ?_
      refine jr_aload_n dX9_told_69 rfl ?_
      refine jr_iload_n dX9_told_70 rfl ?_
      refine jr_iload dX9_told_71 rfl ?_
      refine jc_Vi (c_strikes g _ hw1 s hs1 hG k t (by omega) (by omega)) lkX9_115 (hw1.k rfl) rfl rfl (Nat.le_of_ble_eq_true rfl) (Nat.le_of_ble_eq_true rfl) dX9_told_73 (fun r_73 w_73 h_73 => ?_)
      obtain ⟨rfl, hS2⟩ := h_73
      refine jr_iadd dX9_told_76 ?_
      rw [nI_add]
      refine jr_istore_3 dX9_told_77 (by decide) rfl ?_
      refine jr_iinc_4 (nI (t + 1)) dX9_told_78 (inc1 t) (by decide) rfl ?_
      refine jr_goto 55 dX9_told_81 (by decide) ?_
      exact ih (t + 1) _ (by omega) (hS.tr hS2)
  refine jr_aload_n dX9_told_0 rfl ?_
  refine jr_iload_n dX9_told_1 rfl ?_
  refine jc_Vi (c_isClock g _ hw _ (sN s 0) h6 (by rw [hs]; exact h0.1)) lkX9_107 (hw.k rfl) rfl rfl (Nat.le_of_ble_eq_true rfl) (Nat.le_of_ble_eq_true rfl) dX9_told_2 (fun r_2 w_2 h_2 => ?_)
  obtain ⟨rfl, rfl⟩ := h_2
  refine jr_if_eq 20 dX9_told_5 (by decide) (fun c_5 => ?_) (fun c_5 => ?_)
  · rw [jb_0] at c_5
    refine jr_ldc (-1000000001) ckX9_83 dX9_told_20 ?_
    refine jr_iret rfl dX9_told_22 ?_
    exact hQ _ _ ⟨by rw [F_told, if_neg (by unfold isC inR; omega)], MS.rf hs⟩
  · rw [jb_1] at c_5
    obtain ⟨k, hk, ec⟩ := i_of c_5.1 c_5.2
    refine jr_iload_n dX9_told_8 rfl ?_
    refine jr_i2l dX9_told_9 ?_
    refine jr_lconst 0 dX9_told_10 (by decide) ?_
    refine jr_ldc2 (5) ckX9_77 dX9_told_11 ?_
    refine jc_Si (c_isInI g _ _ _ _) lkX9_68 rfl rfl (Nat.le_of_ble_eq_true rfl) (Nat.le_of_ble_eq_true rfl) dX9_told_14 (fun r_14 w_14 h_14 => ?_)
    obtain ⟨rfl, rfl⟩ := h_14
    refine jr_if_ne 23 dX9_told_17 (by decide) (fun c_17 => ?_) (fun c_17 => ?_)
    · rw [jb_1] at c_17
      simp only [Int64.reduceToInt] at c_17
      refine jr_iload_n dX9_told_23 rfl ?_
      refine jr_iconst (3) dX9_told_24 (by decide) ?_
      refine jr_icmp_ge 35 dX9_told_25 (by decide) (fun c_25 => ?_) (fun c_25 => ?_)
      · simp only [lt_i, le_i, eq_i, Int32.reduceToInt] at c_25
        refine jr_iload_n dX9_told_35 rfl ?_
        refine jr_iconst (3) dX9_told_36 (by decide) ?_
        refine jr_icmp_ne 50 dX9_told_37 (by decide) (fun c_37 => ?_) (fun c_37 => ?_)
        · simp only [lt_i, le_i, eq_i, Int32.reduceToInt] at c_37
          by_cases ex : x.toInt = 4
          · refine jr_iconst (0) dX9_told_50 (by decide) ?_
            refine jr_istore_3 dX9_told_51 (by decide) rfl ?_
            refine jr_iconst (0) dX9_told_52 (by decide) ?_
            refine jr_istore_4 dX9_told_53 (by decide) rfl ?_
            exact L k hk ec ex 720 0 w rfl Sm.rf
          subst ec
          refine jr_iconst (0) dX9_told_50 (by decide) ?_
          refine jr_istore_3 dX9_told_51 (by decide) rfl ?_
          refine jr_iconst (0) dX9_told_52 (by decide) ?_
          refine jr_istore_4 dX9_told_53 (by decide) rfl ?_
          refine jr_iload dX9_told_55 rfl ?_
          refine jr_sipush (720) dX9_told_57 (by decide) ?_
          refine jr_icmp_ge 84 dX9_told_60 (by decide) (fun c_60 => absurd c_60 (by decide)) (fun c_60 => ?_)
          refine jr_iload_n dX9_told_63 rfl ?_
          refine jr_iconst (4) dX9_told_64 (by decide) ?_
          refine jr_icmp_ne 84 dX9_told_65 (by decide) (fun c_65 => ?_) (fun c_65 => absurd c_65 (by rw [eq_i]; exact ex))
          refine jr_iload_n dX9_told_84 rfl ?_
          refine jr_iconst (4) dX9_told_85 (by decide) ?_
          refine jr_icmp_ne 93 dX9_told_86 (by decide) (fun c_86 => ?_) (fun c_86 => absurd c_86 (by rw [eq_i]; exact ex))
          refine jr_aload_n dX9_told_93 rfl ?_
          refine jr_iload_n dX9_told_94 rfl ?_
          refine jc_Vi (c_mworth g _ hw s hs hC k (by omega)) lkX9_118 (hw.k rfl) rfl rfl (Nat.le_of_ble_eq_true rfl) (Nat.le_of_ble_eq_true rfl) dX9_told_95 (fun r_95 w_95 h_95 => ?_)
          obtain ⟨rfl, rfl⟩ := h_95
          refine jr_iret rfl dX9_told_98 ?_
          refine hQ _ _ ⟨?_, MS.rf hs⟩
          rw [F_told, if_pos (by unfold isC inR; omega), if_neg (by omega), if_neg (by omega), if_neg (by omega), nI_clamp (by omega)]
        · simp only [lt_i, le_i, eq_i, Int32.reduceToInt] at c_37
          subst ec
          refine jr_aload_n dX9_told_40 rfl ?_
          refine jr_iload_n dX9_told_41 rfl ?_
          refine jr_aload_n dX9_told_42 rfl ?_
          refine jc_Vi (c_mtimeNow g _ hw (sN s 2) (by have := hmi.2; omega) (by rw [hs]; exact hmi.1)) lkX9_111 (hw.k rfl) rfl rfl (Nat.le_of_ble_eq_true rfl) (Nat.le_of_ble_eq_true rfl) dX9_told_43 (fun r_43 w_43 h_43 => ?_)
          obtain ⟨rfl, rfl⟩ := h_43
          refine jc_Vi (c_strikes g _ hw s hs hG k _ (by omega) (by omega)) lkX9_115 (hw.k rfl) rfl rfl (Nat.le_of_ble_eq_true rfl) (Nat.le_of_ble_eq_true rfl) dX9_told_46 (fun r_46 w_46 h_46 => ?_)
          obtain ⟨rfl, hS⟩ := h_46
          refine jr_iret rfl dX9_told_49 ?_
          refine hQ _ _ ⟨?_, MS.m hs hS⟩
          rw [F_told, if_pos (by unfold isC inR; omega), if_neg (by omega), if_pos (by omega), nI_clamp (by omega)]
      · simp only [lt_i, le_i, eq_i, Int32.reduceToInt] at c_25
        obtain ⟨j, hj, ex⟩ := i_of (n := 3) (x := x) c_17.1 (by omega)
        subst ec
        subst ex
        refine jr_aload_n dX9_told_28 rfl ?_
        refine jr_iload_n dX9_told_29 rfl ?_
        refine jr_iload_n dX9_told_30 rfl ?_
        refine jc_Vi (c_of g _ hw k j (by omega) hj) lkX9_88 (hw.k rfl) rfl rfl (Nat.le_of_ble_eq_true rfl) (Nat.le_of_ble_eq_true rfl) dX9_told_31 (fun r_31 w_31 h_31 => ?_)
        obtain ⟨rfl, rfl⟩ := h_31
        refine jr_iret rfl dX9_told_34 ?_
        refine hQ _ _ ⟨?_, MS.rf hs⟩
        rw [F_told, if_pos (by unfold isC inR; omega), if_pos (by omega), nI_clamp (by omega), nI_clamp (by omega), hs]
    · rw [jb_0] at c_17
      simp only [Int64.reduceToInt] at c_17
      refine jr_ldc (-1000000001) ckX9_83 dX9_told_20 ?_
      refine jr_iret rfl dX9_told_22 ?_
      exact hQ _ _ ⟨by rw [F_told, if_neg (by unfold isC inR; omega)], MS.rf hs⟩
def F_as (s : Nat → Int32) (c x : Int32) : Int32 :=
  if isC s c ∧ inR x 0 5 then
    (if (s (10 + 3 * c.toNatClampNeg + 0)).toInt = x.toInt ∨ x.toInt = 0 ∨ (x.toInt = 1 ∧ (s (10 + 3 * c.toNatClampNeg + 0)).toInt = 3) ∨ (x.toInt = 2 ∧ (s (10 + 3 * c.toNatClampNeg + 0)).toInt = 4) then s (10 + 3 * c.toNatClampNeg + 2) else -1000000012)
  else -1000000001
theorem m_as (g : Cx) (w : Wd) (hw : Wf w) (s : Nat → Int32) (hs : wI w 79 = s) (hG : Gd s) (c x : Int32) : CI g yX9_as cX9_as 3 (some .int) 3 0 0 [.ref (gb g + 78), .int c, .int x] w (fun r w' => r = F_as s c x ∧ MS w w' s) := by
  obtain ⟨h0, -⟩ := id hG
  have h6 := h0.2
  refine CI.of (own := RX9) (nm := "as") (lv := [some (.ref (gb g + 78)), some (.int c), some (.int x)]) (by decide) rfl rfl (Nat.le_of_ble_eq_true rfl) rfl (fun Q hQ => ?_)
  refine jr_aload_n dX9_as_0 rfl ?_
  refine jr_iload_n dX9_as_1 rfl ?_
  refine jc_Vi (c_isClock g _ hw _ (sN s 0) h6 (by rw [hs]; exact h0.1)) lkX9_107 (hw.k rfl) rfl rfl (Nat.le_of_ble_eq_true rfl) (Nat.le_of_ble_eq_true rfl) dX9_as_2 (fun r_2 w_2 h_2 => ?_)
  obtain ⟨rfl, rfl⟩ := h_2
  refine jr_if_eq 20 dX9_as_5 (by decide) (fun c_5 => ?_) (fun c_5 => ?_)
  · rw [jb_0] at c_5
    refine jr_ldc (-1000000001) ckX9_83 dX9_as_20 ?_
    refine jr_iret rfl dX9_as_22 ?_
    exact hQ _ _ ⟨by rw [F_as, if_neg (by unfold isC inR; omega)], MS.rf hs⟩
  · rw [jb_1] at c_5
    obtain ⟨k, hk, ec⟩ := i_of c_5.1 c_5.2
    subst ec
    refine jr_iload_n dX9_as_8 rfl ?_
    refine jr_i2l dX9_as_9 ?_
    refine jr_lconst 0 dX9_as_10 (by decide) ?_
    refine jr_ldc2 (5) ckX9_77 dX9_as_11 ?_
    refine jc_Si (c_isInI g _ _ _ _) lkX9_68 rfl rfl (Nat.le_of_ble_eq_true rfl) (Nat.le_of_ble_eq_true rfl) dX9_as_14 (fun r_14 w_14 h_14 => ?_)
    obtain ⟨rfl, rfl⟩ := h_14
    refine jr_if_ne 23 dX9_as_17 (by decide) (fun c_17 => ?_) (fun c_17 => ?_)
    · rw [jb_1] at c_17
      simp only [Int64.reduceToInt] at c_17
      refine jr_aload_n dX9_as_23 rfl ?_
      refine jr_iload_n dX9_as_24 rfl ?_
      refine jr_iconst (0) dX9_as_25 (by decide) ?_
      refine jc_Vi (c_of g _ hw k 0 (by omega) (by decide)) lkX9_88 (hw.k rfl) rfl rfl (Nat.le_of_ble_eq_true rfl) (Nat.le_of_ble_eq_true rfl) dX9_as_26 (fun r_26 w_26 h_26 => ?_)
      obtain ⟨rfl, rfl⟩ := h_26
      rw [hs]
      refine jr_iload_n dX9_as_29 rfl ?_
      refine jc_Si (c_isOf g _ _ _) lkX9_121 rfl rfl (Nat.le_of_ble_eq_true rfl) (Nat.le_of_ble_eq_true rfl) dX9_as_30 (fun r_30 w_30 h_30 => ?_)
      obtain ⟨rfl, rfl⟩ := h_30
      refine jr_if_eq 45 dX9_as_33 (by decide) (fun c_33 => ?_) (fun c_33 => ?_)
      · rw [jb_0] at c_33
        refine jr_ldc (-1000000012) ckX9_125 dX9_as_45 ?_
        refine jr_iret rfl dX9_as_47 ?_
        refine hQ _ _ ⟨?_, MS.rf hs⟩
        rw [F_as, if_pos (by unfold isC inR; omega), nI_clamp (by omega)]
        first | rw [if_pos c_33, hs] | rw [if_neg c_33]
      · rw [jb_1] at c_33
        refine jr_aload_n dX9_as_36 rfl ?_
        refine jr_iload_n dX9_as_37 rfl ?_
        refine jr_iconst (2) dX9_as_38 (by decide) ?_
        refine jc_Vi (c_of g _ hw k 2 (by omega) (by decide)) lkX9_88 (hw.k rfl) rfl rfl (Nat.le_of_ble_eq_true rfl) (Nat.le_of_ble_eq_true rfl) dX9_as_39 (fun r_39 w_39 h_39 => ?_)
        obtain ⟨rfl, rfl⟩ := h_39
        refine jr_goto 47 dX9_as_42 (by decide) ?_
        refine jr_iret rfl dX9_as_47 ?_
        refine hQ _ _ ⟨?_, MS.rf hs⟩
        rw [F_as, if_pos (by unfold isC inR; omega), nI_clamp (by omega)]
        first | rw [if_pos c_33, hs] | rw [if_neg c_33]
    · rw [jb_0] at c_17
      simp only [Int64.reduceToInt] at c_17
      refine jr_ldc (-1000000001) ckX9_83 dX9_as_20 ?_
      refine jr_iret rfl dX9_as_22 ?_
      exact hQ _ _ ⟨by rw [F_as, if_neg (by unfold isC inR; omega)], MS.rf hs⟩
def F_turns (s : Nat → Int32) (c x : Int32) : Ro :=
  if isC s c ∧ inR x 0 5 then (s (10 + 3 * c.toNatClampNeg + 0), upd s (10 + 3 * c.toNatClampNeg + 0) x) else (-1000000001, s)
theorem m_turns (g : Cx) (w : Wd) (hw : Wf w) (s : Nat → Int32) (hs : wI w 79 = s) (hG : Gd s) (c x : Int32) : CI g yX9_turns cX9_turns 3 (some .int) 3 0 0 [.ref (gb g + 78), .int c, .int x] w (fun r w' => r = (F_turns s c x).1 ∧ MS w w' (F_turns s c x).2) := by
  obtain ⟨h0, -⟩ := id hG
  have h6 := h0.2
  refine CI.of (own := RX9) (nm := "turns") (lv := [some (.ref (gb g + 78)), some (.int c), some (.int x)]) (by decide) rfl rfl (Nat.le_of_ble_eq_true rfl) rfl (fun Q hQ => ?_)
  refine jr_aload_n dX9_turns_0 rfl ?_
  refine jr_iload_n dX9_turns_1 rfl ?_
  refine jc_Vi (c_isClock g _ hw _ (sN s 0) h6 (by rw [hs]; exact h0.1)) lkX9_107 (hw.k rfl) rfl rfl (Nat.le_of_ble_eq_true rfl) (Nat.le_of_ble_eq_true rfl) dX9_turns_2 (fun r_2 w_2 h_2 => ?_)
  obtain ⟨rfl, rfl⟩ := h_2
  refine jr_if_eq 34 dX9_turns_5 (by decide) (fun c_5 => ?_) (fun c_5 => ?_)
  · rw [jb_0] at c_5
    refine jr_ldc (-1000000001) ckX9_83 dX9_turns_34 ?_
    refine jr_iret rfl dX9_turns_36 ?_
    first | exact hQ _ _ (fin2 (by rw [F_turns, if_neg (by unfold isC inR; omega)]) (MS.rf hs)) | exact hQ _ _ (fin2 (s' := upd s (10 + 3 * k) x) (by rw [F_turns, if_pos (by unfold isC inR; omega), nI_clamp (by omega), hs, Nat.add_zero]) (by rw [hs]; exact MS.s))
  · rw [jb_1] at c_5
    obtain ⟨k, hk, ec⟩ := i_of c_5.1 c_5.2
    subst ec
    refine jr_iload_n dX9_turns_8 rfl ?_
    refine jr_i2l dX9_turns_9 ?_
    refine jr_lconst 0 dX9_turns_10 (by decide) ?_
    refine jr_ldc2 (5) ckX9_77 dX9_turns_11 ?_
    refine jc_Si (c_isInI g _ _ _ _) lkX9_68 rfl rfl (Nat.le_of_ble_eq_true rfl) (Nat.le_of_ble_eq_true rfl) dX9_turns_14 (fun r_14 w_14 h_14 => ?_)
    obtain ⟨rfl, rfl⟩ := h_14
    refine jr_if_eq 34 dX9_turns_17 (by decide) (fun c_17 => ?_) (fun c_17 => ?_)
    · rw [jb_0] at c_17
      simp only [Int64.reduceToInt] at c_17
      refine jr_ldc (-1000000001) ckX9_83 dX9_turns_34 ?_
      refine jr_iret rfl dX9_turns_36 ?_
      first | exact hQ _ _ (fin2 (by rw [F_turns, if_neg (by unfold isC inR; omega)]) (MS.rf hs)) | exact hQ _ _ (fin2 (s' := upd s (10 + 3 * k) x) (by rw [F_turns, if_pos (by unfold isC inR; omega), nI_clamp (by omega), hs, Nat.add_zero]) (by rw [hs]; exact MS.s))
    · rw [jb_1] at c_17
      simp only [Int64.reduceToInt] at c_17
      refine jr_aload_n dX9_turns_20 rfl ?_
      refine jr_bipush (10) dX9_turns_21 (by decide) ?_
      refine jr_iconst (3) dX9_turns_23 (by decide) ?_
      refine jr_iload_n dX9_turns_24 rfl ?_
      refine jr_imul dX9_turns_25 ?_
      refine jr_iadd dX9_turns_26 ?_
      rw [jlit 10, jlit 3, pk_mul, nI_add]
      refine jr_iload_n dX9_turns_27 rfl ?_
      refine jc_Vi (c_becomes g _ hw (10 + 3 * k) _ (by omega)) lkX9_126 (hw.k rfl) rfl rfl (Nat.le_of_ble_eq_true rfl) (Nat.le_of_ble_eq_true rfl) dX9_turns_28 (fun r_28 w_28 h_28 => ?_)
      obtain ⟨rfl, rfl⟩ := h_28
      refine jr_goto 36 dX9_turns_31 (by decide) ?_
      refine jr_iret rfl dX9_turns_36 ?_
      first | exact hQ _ _ (fin2 (by rw [F_turns, if_neg (by unfold isC inR; omega)]) (MS.rf hs)) | exact hQ _ _ (fin2 (s' := upd s (10 + 3 * k) x) (by rw [F_turns, if_pos (by unfold isC inR; omega), nI_clamp (by omega), hs, Nat.add_zero]) (by rw [hs]; exact MS.s))
def F_set (s : Nat → Int32) (c x v : Int32) : Ro :=
  if isC s c ∧ inR x 1 2 ∧ inR v 0 (if x.toInt = 1 then 59 else 9) then (s (10 + 3 * c.toNatClampNeg + x.toNatClampNeg), upd s (10 + 3 * c.toNatClampNeg + x.toNatClampNeg) v) else (-1000000001, s)
theorem m_set (g : Cx) (w : Wd) (hw : Wf w) (s : Nat → Int32) (hs : wI w 79 = s) (hG : Gd s) (c x v : Int32) : CI g yX9_set cX9_set 4 (some .int) 3 0 0 [.ref (gb g + 78), .int c, .int x, .int v] w (fun r w' => r = (F_set s c x v).1 ∧ MS w w' (F_set s c x v).2) := by
  obtain ⟨h0, -⟩ := id hG
  have h6 := h0.2
  refine CI.of (own := RX9) (nm := "set") (lv := [some (.ref (gb g + 78)), some (.int c), some (.int x), some (.int v)]) (by decide) rfl rfl (Nat.le_of_ble_eq_true rfl) rfl (fun Q hQ => ?_)
  refine jr_aload_n dX9_set_0 rfl ?_
  refine jr_iload_n dX9_set_1 rfl ?_
  refine jc_Vi (c_isClock g _ hw _ (sN s 0) h6 (by rw [hs]; exact h0.1)) lkX9_107 (hw.k rfl) rfl rfl (Nat.le_of_ble_eq_true rfl) (Nat.le_of_ble_eq_true rfl) dX9_set_2 (fun r_2 w_2 h_2 => ?_)
  obtain ⟨rfl, rfl⟩ := h_2
  refine jr_if_eq 43 dX9_set_5 (by decide) (fun c_5 => ?_) (fun c_5 => ?_)
  · rw [jb_0] at c_5
    refine jr_ldc (-1000000001) ckX9_83 dX9_set_43 ?_
    refine jr_iret rfl dX9_set_45 ?_
    refine hQ _ _ (fin2 ?_ (MS.rf hs))
    first | rw [F_set, if_neg (by unfold isC inR; omega)] | (rw [F_set, if_neg (by unfold isC inR; split <;> omega)])
  · rw [jb_1] at c_5
    obtain ⟨k, hk, ec⟩ := i_of c_5.1 c_5.2
    subst ec
    refine jr_iload_n dX9_set_8 rfl ?_
    refine jr_i2l dX9_set_9 ?_
    refine jr_lconst 1 dX9_set_10 (by decide) ?_
    refine jr_ldc2 (2) ckX9_129 dX9_set_11 ?_
    refine jc_Si (c_isInI g _ _ _ _) lkX9_68 rfl rfl (Nat.le_of_ble_eq_true rfl) (Nat.le_of_ble_eq_true rfl) dX9_set_14 (fun r_14 w_14 h_14 => ?_)
    obtain ⟨rfl, rfl⟩ := h_14
    refine jr_if_eq 43 dX9_set_17 (by decide) (fun c_17 => ?_) (fun c_17 => ?_)
    · rw [jb_0] at c_17
      simp only [Int64.reduceToInt] at c_17
      refine jr_ldc (-1000000001) ckX9_83 dX9_set_43 ?_
      refine jr_iret rfl dX9_set_45 ?_
      refine hQ _ _ (fin2 ?_ (MS.rf hs))
      first | rw [F_set, if_neg (by unfold isC inR; omega)] | (rw [F_set, if_neg (by unfold isC inR; split <;> omega)])
    · rw [jb_1] at c_17
      simp only [Int64.reduceToInt] at c_17
      obtain ⟨j, hj, ex⟩ := i_of (n := 3) (x := x) (by omega) (by omega)
      subst ex
      have ej := i_nI (n := j) (by omega)
      refine jr_iload_n dX9_set_20 rfl ?_
      refine jr_i2l dX9_set_21 ?_
      refine jr_lconst 0 dX9_set_22 (by decide) ?_
      refine jr_iload_n dX9_set_23 rfl ?_
      refine jr_iconst (1) dX9_set_24 (by decide) ?_
      refine jr_icmp_ne 34 dX9_set_25 (by decide) (fun c_25 => ?_) (fun c_25 => ?_)
      · simp only [lt_i, le_i, eq_i, Int32.reduceToInt] at c_25
        refine jr_ldc2 (9) ckX9_81 dX9_set_34 ?_
        refine jc_Si (c_isInI g _ _ _ _) lkX9_68 rfl rfl (Nat.le_of_ble_eq_true rfl) (Nat.le_of_ble_eq_true rfl) dX9_set_37 (fun r_37 w_37 h_37 => ?_)
        obtain ⟨rfl, rfl⟩ := h_37
        refine jr_if_ne 46 dX9_set_40 (by decide) (fun c_40 => ?_) (fun c_40 => ?_)
        · rw [jb_1] at c_40
          simp only [Int64.reduceToInt] at c_40
          refine jr_aload_n dX9_set_46 rfl ?_
          refine jr_bipush (10) dX9_set_47 (by decide) ?_
          refine jr_iconst (3) dX9_set_49 (by decide) ?_
          refine jr_iload_n dX9_set_50 rfl ?_
          refine jr_imul dX9_set_51 ?_
          refine jr_iadd dX9_set_52 ?_
          refine jr_iload_n dX9_set_53 rfl ?_
          refine jr_iadd dX9_set_54 ?_
          rw [jlit 10, jlit 3, pk_mul, nI_add, nI_add]
          refine jr_iload_n dX9_set_55 rfl ?_
          refine jc_Vi (c_becomes g _ hw (10 + 3 * k + j) _ (by omega)) lkX9_126 (hw.k rfl) rfl rfl (Nat.le_of_ble_eq_true rfl) (Nat.le_of_ble_eq_true rfl) dX9_set_56 (fun r_56 w_56 h_56 => ?_)
          obtain ⟨rfl, rfl⟩ := h_56
          refine jr_iret rfl dX9_set_59 ?_
          refine hQ _ _ (fin2 (s' := upd s (10 + 3 * k + j) v) ?_ (by rw [hs]; exact MS.s))
          rw [F_set, if_pos (by unfold isC inR; split <;> omega), nI_clamp (by omega), nI_clamp (by omega), hs]
        · rw [jb_0] at c_40
          simp only [Int64.reduceToInt] at c_40
          refine jr_ldc (-1000000001) ckX9_83 dX9_set_43 ?_
          refine jr_iret rfl dX9_set_45 ?_
          refine hQ _ _ (fin2 ?_ (MS.rf hs))
          first | rw [F_set, if_neg (by unfold isC inR; omega)] | (rw [F_set, if_neg (by unfold isC inR; split <;> omega)])
      · simp only [lt_i, le_i, eq_i, Int32.reduceToInt] at c_25
        refine jr_ldc2 (59) ckX9_79 dX9_set_28 ?_
        refine jr_goto 37 dX9_set_31 (by decide) ?_
        refine jc_Si (c_isInI g _ _ _ _) lkX9_68 rfl rfl (Nat.le_of_ble_eq_true rfl) (Nat.le_of_ble_eq_true rfl) dX9_set_37 (fun r_37 w_37 h_37 => ?_)
        obtain ⟨rfl, rfl⟩ := h_37
        refine jr_if_ne 46 dX9_set_40 (by decide) (fun c_40 => ?_) (fun c_40 => ?_)
        · rw [jb_1] at c_40
          simp only [Int64.reduceToInt] at c_40
          refine jr_aload_n dX9_set_46 rfl ?_
          refine jr_bipush (10) dX9_set_47 (by decide) ?_
          refine jr_iconst (3) dX9_set_49 (by decide) ?_
          refine jr_iload_n dX9_set_50 rfl ?_
          refine jr_imul dX9_set_51 ?_
          refine jr_iadd dX9_set_52 ?_
          refine jr_iload_n dX9_set_53 rfl ?_
          refine jr_iadd dX9_set_54 ?_
          rw [jlit 10, jlit 3, pk_mul, nI_add, nI_add]
          refine jr_iload_n dX9_set_55 rfl ?_
          refine jc_Vi (c_becomes g _ hw (10 + 3 * k + j) _ (by omega)) lkX9_126 (hw.k rfl) rfl rfl (Nat.le_of_ble_eq_true rfl) (Nat.le_of_ble_eq_true rfl) dX9_set_56 (fun r_56 w_56 h_56 => ?_)
          obtain ⟨rfl, rfl⟩ := h_56
          refine jr_iret rfl dX9_set_59 ?_
          refine hQ _ _ (fin2 (s' := upd s (10 + 3 * k + j) v) ?_ (by rw [hs]; exact MS.s))
          rw [F_set, if_pos (by unfold isC inR; split <;> omega), nI_clamp (by omega), nI_clamp (by omega), hs]
        · rw [jb_0] at c_40
          simp only [Int64.reduceToInt] at c_40
          refine jr_ldc (-1000000001) ckX9_83 dX9_set_43 ?_
          refine jr_iret rfl dX9_set_45 ?_
          refine hQ _ _ (fin2 ?_ (MS.rf hs))
          first | rw [F_set, if_neg (by unfold isC inR; omega)] | (rw [F_set, if_neg (by unfold isC inR; split <;> omega)])
def F_strokes (s : Nat → Int32) (c x : Int32) : Int32 := if isC s c ∧ inR x 0 719 then nI (stkF s c.toNatClampNeg x.toNatClampNeg) else -1000000001
theorem m_strokes (g : Cx) (w : Wd) (hw : Wf w) (s : Nat → Int32) (hs : wI w 79 = s) (hG : Gd s) (c x : Int32) : CI g yX9_strokes cX9_strokes 3 (some .int) 5 0 0 [.ref (gb g + 78), .int c, .int x] w (fun r w' => r = F_strokes s c x ∧ MS w w' s) := by
  obtain ⟨h0, -⟩ := id hG
  have h6 := h0.2
  refine CI.of (own := RX9) (nm := "strokes") (lv := [some (.ref (gb g + 78)), some (.int c), some (.int x)]) (by decide) rfl rfl (Nat.le_of_ble_eq_true rfl) rfl (fun Q hQ => ?_)
  refine jr_aload_n dX9_strokes_0 rfl ?_
  refine jr_iload_n dX9_strokes_1 rfl ?_
  refine jc_Vi (c_isClock g _ hw _ (sN s 0) h6 (by rw [hs]; exact h0.1)) lkX9_107 (hw.k rfl) rfl rfl (Nat.le_of_ble_eq_true rfl) (Nat.le_of_ble_eq_true rfl) dX9_strokes_2 (fun r_2 w_2 h_2 => ?_)
  obtain ⟨rfl, rfl⟩ := h_2
  refine jr_if_eq 24 dX9_strokes_5 (by decide) (fun c_5 => ?_) (fun c_5 => ?_)
  · rw [jb_0] at c_5
    refine jr_ldc (-1000000001) ckX9_83 dX9_strokes_24 ?_
    refine jr_iret rfl dX9_strokes_26 ?_
    first | exact hQ _ _ ⟨by rw [F_strokes, if_neg (by unfold isC inR; omega)], MS.rf hs⟩ | exact hQ _ _ ⟨by rw [F_strokes, if_pos (by unfold isC inR; omega), nI_clamp (by omega), nI_clamp (by omega)], MS.m hs hS⟩
  · rw [jb_1] at c_5
    obtain ⟨k, hk, ec⟩ := i_of c_5.1 c_5.2
    subst ec
    refine jr_iload_n dX9_strokes_8 rfl ?_
    refine jc_Si (c_isTime g _ _) lkX9_131 rfl rfl (Nat.le_of_ble_eq_true rfl) (Nat.le_of_ble_eq_true rfl) dX9_strokes_9 (fun r_9 w_9 h_9 => ?_)
    obtain ⟨rfl, rfl⟩ := h_9
    refine jr_if_eq 24 dX9_strokes_12 (by decide) (fun c_12 => ?_) (fun c_12 => ?_)
    · rw [jb_0] at c_12
      refine jr_ldc (-1000000001) ckX9_83 dX9_strokes_24 ?_
      refine jr_iret rfl dX9_strokes_26 ?_
      first | exact hQ _ _ ⟨by rw [F_strokes, if_neg (by unfold isC inR; omega)], MS.rf hs⟩ | exact hQ _ _ ⟨by rw [F_strokes, if_pos (by unfold isC inR; omega), nI_clamp (by omega), nI_clamp (by omega)], MS.m hs hS⟩
    · rw [jb_1] at c_12
      obtain ⟨t, ht, ex⟩ := i_of (n := 720) c_12.1 c_12.2
      subst ex
      refine jr_aload_n dX9_strokes_15 rfl ?_
      refine jr_iload_n dX9_strokes_16 rfl ?_
      refine jr_iload_n dX9_strokes_17 rfl ?_
      refine jc_Vi (c_strikes g _ hw s hs hG k t (by omega) ht) lkX9_115 (hw.k rfl) rfl rfl (Nat.le_of_ble_eq_true rfl) (Nat.le_of_ble_eq_true rfl) dX9_strokes_18 (fun r_18 w_18 h_18 => ?_)
      obtain ⟨rfl, hS⟩ := h_18
      refine jr_goto 26 dX9_strokes_21 (by decide) ?_
      refine jr_iret rfl dX9_strokes_26 ?_
      first | exact hQ _ _ ⟨by rw [F_strokes, if_neg (by unfold isC inR; omega)], MS.rf hs⟩ | exact hQ _ _ ⟨by rw [F_strokes, if_pos (by unfold isC inR; omega), nI_clamp (by omega), nI_clamp (by omega)], MS.m hs hS⟩
def F_total (s : Nat → Int32) (x : Int32) : Int32 := if inR x 0 719 then nI (totF s x.toNatClampNeg (sN s 0)) else -1000000001
theorem m_total (g : Cx) (w : Wd) (hw : Wf w) (s : Nat → Int32) (hs : wI w 79 = s) (hG : Gd s) (x : Int32) : CI g yX9_total cX9_total 2 (some .int) 6 0 0 [.ref (gb g + 78), .int x] w (fun r w' => r = F_total s x ∧ MS w w' s) := by
  refine CI.of (own := RX9) (nm := "total") (lv := [some (.ref (gb g + 78)), some (.int x)]) (by decide) rfl rfl (Nat.le_of_ble_eq_true rfl) rfl (fun Q hQ => ?_)
  refine jr_iload_n dX9_total_0 rfl ?_
  refine jc_Si (c_isTime g _ _) lkX9_131 rfl rfl (Nat.le_of_ble_eq_true rfl) (Nat.le_of_ble_eq_true rfl) dX9_total_1 (fun r_1 w_1 h_1 => ?_)
  obtain ⟨rfl, rfl⟩ := h_1
  refine jr_if_eq 15 dX9_total_4 (by decide) (fun c_4 => ?_) (fun c_4 => ?_)
  · rw [jb_0] at c_4
    refine jr_ldc (-1000000001) ckX9_83 dX9_total_15 ?_
    refine jr_iret rfl dX9_total_17 ?_
    first | exact hQ _ _ ⟨by rw [F_total, if_neg (by unfold inR; omega)], MS.rf hs⟩ | exact hQ _ _ ⟨by rw [F_total, if_pos (by unfold inR; omega), nI_clamp (by omega)], MS.m hs hS⟩
  · rw [jb_1] at c_4
    obtain ⟨t, ht, ex⟩ := i_of (n := 720) c_4.1 c_4.2
    subst ex
    refine jr_aload_n dX9_total_7 rfl ?_
    refine jr_iload_n dX9_total_8 rfl ?_
    refine jc_Vi (c_mtotalAt g _ hw s hs hG t ht) lkX9_134 (hw.k rfl) rfl rfl (Nat.le_of_ble_eq_true rfl) (Nat.le_of_ble_eq_true rfl) dX9_total_9 (fun r_9 w_9 h_9 => ?_)
    obtain ⟨rfl, hS⟩ := h_9
    refine jr_goto 17 dX9_total_12 (by decide) ?_
    refine jr_iret rfl dX9_total_17 ?_
    first | exact hQ _ _ ⟨by rw [F_total, if_neg (by unfold inR; omega)], MS.rf hs⟩ | exact hQ _ _ ⟨by rw [F_total, if_pos (by unfold inR; omega), nI_clamp (by omega)], MS.m hs hS⟩
def F_ear (s : Nat → Int32) (x v : Int32) : Ro := if inR x 0 1 ∧ inR v 0 100 then (s (6 + x.toNatClampNeg), upd s (6 + x.toNatClampNeg) v) else (-1000000001, s)
theorem m_ear (g : Cx) (w : Wd) (hw : Wf w) (s : Nat → Int32) (hs : wI w 79 = s) (x v : Int32) : CI g yX9_ear cX9_ear 3 (some .int) 2 0 0 [.ref (gb g + 78), .int x, .int v] w (fun r w' => r = (F_ear s x v).1 ∧ MS w w' (F_ear s x v).2) := by
  refine CI.of (own := RX9) (nm := "ear") (lv := [some (.ref (gb g + 78)), some (.int x), some (.int v)]) (by decide) rfl rfl (Nat.le_of_ble_eq_true rfl) rfl (fun Q hQ => ?_)
  refine jr_iload_n dX9_ear_0 rfl ?_
  refine jr_i2l dX9_ear_1 ?_
  refine jr_lconst 0 dX9_ear_2 (by decide) ?_
  refine jr_lconst 1 dX9_ear_3 (by decide) ?_
  refine jc_Si (c_isInI g _ _ _ _) lkX9_68 rfl rfl (Nat.le_of_ble_eq_true rfl) (Nat.le_of_ble_eq_true rfl) dX9_ear_4 (fun r_4 w_4 h_4 => ?_)
  obtain ⟨rfl, rfl⟩ := h_4
  refine jr_if_eq 34 dX9_ear_7 (by decide) (fun c_7 => ?_) (fun c_7 => ?_)
  · rw [jb_0] at c_7
    simp only [Int64.reduceToInt] at c_7
    refine jr_ldc (-1000000001) ckX9_83 dX9_ear_34 ?_
    refine jr_iret rfl dX9_ear_36 ?_
    first | exact hQ _ _ (fin2 (by rw [F_ear, if_neg (by unfold inR; omega)]) (MS.rf hs)) | exact hQ _ _ (fin2 (s' := upd s (6 + j) v) (by rw [F_ear, if_pos (by unfold inR; omega), nI_clamp (by omega), hs]) (by rw [hs]; exact MS.s))
  · rw [jb_1] at c_7
    simp only [Int64.reduceToInt] at c_7
    obtain ⟨j, hj, ex⟩ := i_of (n := 2) (x := x) c_7.1 (by omega)
    subst ex
    refine jr_iload_n dX9_ear_10 rfl ?_
    refine jr_i2l dX9_ear_11 ?_
    refine jr_lconst 0 dX9_ear_12 (by decide) ?_
    refine jr_ldc2 (100) ckX9_137 dX9_ear_13 ?_
    refine jc_Si (c_isInI g _ _ _ _) lkX9_68 rfl rfl (Nat.le_of_ble_eq_true rfl) (Nat.le_of_ble_eq_true rfl) dX9_ear_16 (fun r_16 w_16 h_16 => ?_)
    obtain ⟨rfl, rfl⟩ := h_16
    refine jr_if_eq 34 dX9_ear_19 (by decide) (fun c_19 => ?_) (fun c_19 => ?_)
    · rw [jb_0] at c_19
      simp only [Int64.reduceToInt] at c_19
      refine jr_ldc (-1000000001) ckX9_83 dX9_ear_34 ?_
      refine jr_iret rfl dX9_ear_36 ?_
      first | exact hQ _ _ (fin2 (by rw [F_ear, if_neg (by unfold inR; omega)]) (MS.rf hs)) | exact hQ _ _ (fin2 (s' := upd s (6 + j) v) (by rw [F_ear, if_pos (by unfold inR; omega), nI_clamp (by omega), hs]) (by rw [hs]; exact MS.s))
    · rw [jb_1] at c_19
      simp only [Int64.reduceToInt] at c_19
      refine jr_aload_n dX9_ear_22 rfl ?_
      refine jr_bipush (6) dX9_ear_23 (by decide) ?_
      refine jr_iload_n dX9_ear_25 rfl ?_
      refine jr_iadd dX9_ear_26 ?_
      rw [jlit 6, nI_add]
      refine jr_iload_n dX9_ear_27 rfl ?_
      refine jc_Vi (c_becomes g _ hw (6 + j) _ (by omega)) lkX9_126 (hw.k rfl) rfl rfl (Nat.le_of_ble_eq_true rfl) (Nat.le_of_ble_eq_true rfl) dX9_ear_28 (fun r_28 w_28 h_28 => ?_)
      obtain ⟨rfl, rfl⟩ := h_28
      refine jr_goto 36 dX9_ear_31 (by decide) ?_
      refine jr_iret rfl dX9_ear_36 ?_
      first | exact hQ _ _ (fin2 (by rw [F_ear, if_neg (by unfold inR; omega)]) (MS.rf hs)) | exact hQ _ _ (fin2 (s' := upd s (6 + j) v) (by rw [F_ear, if_pos (by unfold inR; omega), nI_clamp (by omega), hs]) (by rw [hs]; exact MS.s))
theorem m_seed (g : Cx) (w : Wd) (hw : Wf w) (s : Nat → Int32) (hs : wI w 79 = s) (v : Int32) : CI g yX9_seed cX9_seed 2 (some .int) 2 0 0 [.ref (gb g + 78), .int v] w (fun r w' => r = s 9 ∧ MS w w' (upd s 9 v)) := by
  refine CI.of (own := RX9) (nm := "seed") (lv := [some (.ref (gb g + 78)), some (.int v)]) (by decide) rfl rfl (Nat.le_of_ble_eq_true rfl) rfl (fun Q hQ => ?_)
  refine jr_aload_n dX9_seed_0 rfl ?_
  refine jr_bipush (9) dX9_seed_1 (by decide) ?_
  refine jr_iload_n dX9_seed_3 rfl ?_
  refine jc_Vi (c_becomes g _ hw 9 _ (by omega)) lkX9_126 (hw.k rfl) rfl rfl (Nat.le_of_ble_eq_true rfl) (Nat.le_of_ble_eq_true rfl) dX9_seed_4 (fun r_4 w_4 h_4 => ?_)
  obtain ⟨rfl, rfl⟩ := h_4
  refine jr_iret rfl dX9_seed_7 ?_
  exact hQ _ _ ⟨by rw [hs], by rw [hs]; exact MS.s⟩
def F_bed (s : Nat → Int32) (x : Int32) : Int32 := if inR x 0 3 then (if x.toInt < 3 then s (3 + x.toNatClampNeg) else s 8) else -1000000001
theorem m_bed (g : Cx) (w : Wd) (hw : Wf w) (s : Nat → Int32) (hs : wI w 79 = s) (x : Int32) : CI g yX9_bed cX9_bed 2 (some .int) 2 0 0 [.ref (gb g + 78), .int x] w (fun r w' => r = F_bed s x ∧ MS w w' s) := by
  refine CI.of (own := RX9) (nm := "bed") (lv := [some (.ref (gb g + 78)), some (.int x)]) (by decide) rfl rfl (Nat.le_of_ble_eq_true rfl) rfl (fun Q hQ => ?_)
  refine jr_iload_n dX9_bed_0 rfl ?_
  refine jr_i2l dX9_bed_1 ?_
  refine jr_lconst 0 dX9_bed_2 (by decide) ?_
  refine jr_ldc2 (3) ckX9_151 dX9_bed_3 ?_
  refine jc_Si (c_isInI g _ _ _ _) lkX9_68 rfl rfl (Nat.le_of_ble_eq_true rfl) (Nat.le_of_ble_eq_true rfl) dX9_bed_6 (fun r_6 w_6 h_6 => ?_)
  obtain ⟨rfl, rfl⟩ := h_6
  refine jr_if_ne 17 dX9_bed_9 (by decide) (fun c_9 => ?_) (fun c_9 => ?_)
  · rw [jb_1] at c_9
    simp only [Int64.reduceToInt] at c_9
    refine jr_iload_n dX9_bed_17 rfl ?_
    refine jr_iconst (3) dX9_bed_18 (by decide) ?_
    refine jr_icmp_ge 33 dX9_bed_19 (by decide) (fun c_19 => ?_) (fun c_19 => ?_)
    · simp only [lt_i, le_i, eq_i, Int32.reduceToInt] at c_19
      refine jr_aload_n dX9_bed_33 rfl ?_
      refine gfX9_7 79 dX9_bed_34 (hw.k rfl) (hw.f rfl) ?_
      refine jr_bipush (8) dX9_bed_37 (by decide) ?_
      refine jr_iald 8 (hw.k rfl) rfl (by decide) dX9_bed_39 ?_
      refine jr_iret rfl dX9_bed_40 ?_
      first | exact hQ _ _ ⟨by rw [F_bed, if_neg (by unfold inR; omega)], MS.rf hs⟩ | exact hQ _ _ ⟨by rw [F_bed, if_pos (by unfold inR; omega), if_pos (by omega), nI_clamp (by omega), hs], MS.rf hs⟩ | exact hQ _ _ ⟨by rw [F_bed, if_pos (by unfold inR; omega), if_neg (by omega), hs], MS.rf hs⟩
    · simp only [lt_i, le_i, eq_i, Int32.reduceToInt] at c_19
      obtain ⟨j, hj, ex⟩ := i_of (n := 3) (x := x) c_9.1 (by omega)
      subst ex
      refine jr_aload_n dX9_bed_22 rfl ?_
      refine gfX9_7 79 dX9_bed_23 (hw.k rfl) (hw.f rfl) ?_
      refine jr_iconst (3) dX9_bed_26 (by decide) ?_
      refine jr_iload_n dX9_bed_27 rfl ?_
      refine jr_iadd dX9_bed_28 ?_
      refine jr_iald (3 + j) (hw.k rfl) (by rw [jlit 3, nI_add]) ⟨by omega, by decide⟩ dX9_bed_29 ?_
      refine jr_goto 40 dX9_bed_30 (by decide) ?_
      refine jr_iret rfl dX9_bed_40 ?_
      first | exact hQ _ _ ⟨by rw [F_bed, if_neg (by unfold inR; omega)], MS.rf hs⟩ | exact hQ _ _ ⟨by rw [F_bed, if_pos (by unfold inR; omega), if_pos (by omega), nI_clamp (by omega), hs], MS.rf hs⟩ | exact hQ _ _ ⟨by rw [F_bed, if_pos (by unfold inR; omega), if_neg (by omega), hs], MS.rf hs⟩
  · rw [jb_0] at c_9
    simp only [Int64.reduceToInt] at c_9
    refine jr_ldc (-1000000001) ckX9_83 dX9_bed_12 ?_
    refine jr_goto 40 dX9_bed_14 (by decide) ?_
    refine jr_iret rfl dX9_bed_40 ?_
    first | exact hQ _ _ ⟨by rw [F_bed, if_neg (by unfold inR; omega)], MS.rf hs⟩ | exact hQ _ _ ⟨by rw [F_bed, if_pos (by unfold inR; omega), if_pos (by omega), nI_clamp (by omega), hs], MS.rf hs⟩ | exact hQ _ _ ⟨by rw [F_bed, if_pos (by unfold inR; omega), if_neg (by omega), hs], MS.rf hs⟩
def F_note (s : Nat → Int32) (x : Int32) : Int32 := if inR x 0 11 then (if x.toInt < (s 8).toInt then s (28 + x.toNatClampNeg) else -1000000005) else -1000000001
theorem m_note (g : Cx) (w : Wd) (hw : Wf w) (s : Nat → Int32) (hs : wI w 79 = s) (x : Int32) : CI g yX9_note cX9_note 2 (some .int) 2 0 0 [.ref (gb g + 78), .int x] w (fun r w' => r = F_note s x ∧ MS w w' s) := by
  refine CI.of (own := RX9) (nm := "note") (lv := [some (.ref (gb g + 78)), some (.int x)]) (by decide) rfl rfl (Nat.le_of_ble_eq_true rfl) rfl (fun Q hQ => ?_)
  refine jr_iload_n dX9_note_0 rfl ?_
  refine jr_i2l dX9_note_1 ?_
  refine jr_lconst 0 dX9_note_2 (by decide) ?_
  refine jr_ldc2 (11) ckX9_153 dX9_note_3 ?_
  refine jc_Si (c_isInI g _ _ _ _) lkX9_68 rfl rfl (Nat.le_of_ble_eq_true rfl) (Nat.le_of_ble_eq_true rfl) dX9_note_6 (fun r_6 w_6 h_6 => ?_)
  obtain ⟨rfl, rfl⟩ := h_6
  refine jr_if_ne 15 dX9_note_9 (by decide) (fun c_9 => ?_) (fun c_9 => ?_)
  · rw [jb_1] at c_9
    simp only [Int64.reduceToInt] at c_9
    obtain ⟨j, hj, ex⟩ := i_of (n := 12) (x := x) c_9.1 (by omega)
    subst ex
    refine jr_iload_n dX9_note_15 rfl ?_
    refine jr_aload_n dX9_note_16 rfl ?_
    refine gfX9_7 79 dX9_note_17 (hw.k rfl) (hw.f rfl) ?_
    refine jr_bipush (8) dX9_note_20 (by decide) ?_
    refine jr_iald 8 (hw.k rfl) rfl (by decide) dX9_note_22 ?_
    rw [hs]
    refine jr_icmp_ge 38 dX9_note_23 (by decide) (fun c_23 => ?_) (fun c_23 => ?_)
    · simp only [lt_i, le_i, eq_i, Int32.reduceToInt] at c_23
      refine jr_ldc (-1000000005) ckX9_67 dX9_note_38 ?_
      refine jr_iret rfl dX9_note_40 ?_
      first | exact hQ _ _ ⟨by rw [F_note, if_pos (by unfold inR; omega), if_pos (by omega), nI_clamp (by omega), hs], MS.rf hs⟩ | exact hQ _ _ ⟨by rw [F_note, if_pos (by unfold inR; omega), if_neg (by omega)], MS.rf hs⟩
    · simp only [lt_i, le_i, eq_i, Int32.reduceToInt] at c_23
      refine jr_aload_n dX9_note_26 rfl ?_
      refine gfX9_7 79 dX9_note_27 (hw.k rfl) (hw.f rfl) ?_
      refine jr_bipush (28) dX9_note_30 (by decide) ?_
      refine jr_iload_n dX9_note_32 rfl ?_
      refine jr_iadd dX9_note_33 ?_
      refine jr_iald (28 + j) (hw.k rfl) (by rw [jlit 28, nI_add]) ⟨by omega, by decide⟩ dX9_note_34 ?_
      refine jr_goto 40 dX9_note_35 (by decide) ?_
      refine jr_iret rfl dX9_note_40 ?_
      first | exact hQ _ _ ⟨by rw [F_note, if_pos (by unfold inR; omega), if_pos (by omega), nI_clamp (by omega), hs], MS.rf hs⟩ | exact hQ _ _ ⟨by rw [F_note, if_pos (by unfold inR; omega), if_neg (by omega)], MS.rf hs⟩
  · rw [jb_0] at c_9
    simp only [Int64.reduceToInt] at c_9
    refine jr_ldc (-1000000001) ckX9_83 dX9_note_12 ?_
    refine jr_iret rfl dX9_note_14 ?_
    exact hQ _ _ ⟨by rw [F_note, if_neg (by unfold inR; omega)], MS.rf hs⟩
