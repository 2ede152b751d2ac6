-- the reference: parts, which clock is wrong, what will be
abbrev pbit (S k : Nat) : Prop := (nI S >>> (nI k &&& 31)) &&& 1 = 1
def sumP (s : Nat → Int32) (t S : Nat) : Nat → Nat
  | 0 => 0
  | k + 1 => sumP s t S k + (if pbit S k then stkF s k t else 0)
def cntP (s : Nat → Int32) (t : Nat) (x : Int32) : Nat → Nat
  | 0 => 0
  | S + 1 => cntP s t x S + (if nI (sumP s t S (sN s 0)) = x then 1 else 0)
theorem shl_1 : ∀ n, n ≤ 6 → (1 : Int32) <<< (nI n &&& 31) = nI (2 ^ n) := by decide
def F_parts (s : Nat → Int32) (x n : Int32) : Int32 := if inR x 0 719 ∧ 0 ≤ n.toInt then nI (cntP s x.toNatClampNeg n (2 ^ sN s 0)) else -1000000001
theorem m_parts (g : Cx) (w : Wd) (hw : Wf w) (s : Nat → Int32) (hs : wI w 79 = s) (hG : Gd s) (x n : Int32) : CI g yX9_parts cX9_parts 7 (some .int) 5 0 0 [.ref (gb g + 78), .int x, .int n] w (fun r w' => r = F_parts s x n ∧ MS w w' s) := by
  obtain ⟨h0, -⟩ := id hG
  have h6 := h0.2
  have h64 : 2 ^ sN s 0 ≤ 64 := Nat.le_trans (Nat.pow_le_pow_right (by decide) h6) (by decide)
  refine CI.of (own := RX9) (nm := "parts") (lv := [some (.ref (gb g + 78)), some (.int x), some (.int n), none, none, none, none]) (by decide) rfl rfl (Nat.le_of_ble_eq_true rfl) rfl (fun Q hQ => ?_)
  have L2 : ∀ (t : Nat), t < 720 → x = nI t → ∀ (m S : Nat) (K : ∀ (w2 : Wd) (a6 : Option Value), Sm scM w w2 → RR g RX9 cX9_parts 7 (some .int) "parts" 5 0 0 0 0 82 [some (.ref (gb g + 78)), some (.int x), some (.int n), some (.int (nI m)), some (.int (nI S)), some (.int (nI (sumP s t S (sN s 0)))), a6] [] w2 Q) (f k : Nat) (w1 : Wd), f + k = sN s 0 → Sm scM w w1 → RR g RX9 cX9_parts 7 (some .int) "parts" 5 0 0 0 0 38 [some (.ref (gb g + 78)), some (.int x), some (.int n), some (.int (nI m)), some (.int (nI S)), some (.int (nI (sumP s t S k))), some (.int (nI k))] [] w1 Q := by
    intro t ht ex m S K f
    subst ex
    induction f with
    | zero =>
      intro k w1 hk hS
      have e : k = sN s 0 := by omega
      subst e
      have hw1 := hS.wf hw
      have hs1 : wI w1 79 = s := (hS.row (scM_n (by decide))).trans hs
      refine jr_iload dX9_parts_38 rfl ?_
      refine jr_aload_n dX9_parts_40 rfl ?_
      refine gfX9_7 79 dX9_parts_41 (hw1.k rfl) (hw1.f rfl) ?_
      refine jr_iconst (0) dX9_parts_44 (by decide) ?_
      refine jr_iald 0 (hw1.k rfl) rfl (by decide) dX9_parts_45 ?_
      refine jr_icmp_ge 82 dX9_parts_46 (by decide) (fun c_46 => ?_) (fun c_46 => absurd (by rw [hs1, h0.1]; exact Int32.le_refl _) c_46)
      exact K _ _ hS
    | succ f ih =>
      intro k w1 hk hS
      have hw1 := hS.wf hw
      have hs1 : wI w1 79 = s := (hS.row (scM_n (by decide))).trans hs
      refine jr_iload dX9_parts_38 rfl ?_
      refine jr_aload_n dX9_parts_40 rfl ?_
      refine gfX9_7 79 dX9_parts_41 (hw1.k rfl) (hw1.f rfl) ?_
      refine jr_iconst (0) dX9_parts_44 (by decide) ?_
      refine jr_iald 0 (hw1.k rfl) rfl (by decide) dX9_parts_45 ?_
      refine jr_icmp_ge 82 dX9_parts_46 (by decide) (fun c_46 => absurd c_46 (by rw [hs1, h0.1]; exact nI_ge (by omega) (by omega))) (fun c_46 => ?_)
      refine jr_iload dX9_parts_49 rfl ?_
      refine jr_iload dX9_parts_51 rfl ?_
      refine jr_iload dX9_parts_53 rfl ?_
      refine jr_ishr dX9_parts_55 ?_
      refine jr_iconst (1) dX9_parts_56 (by decide) ?_
      refine jr_iand dX9_parts_57 ?_
      refine jr_iconst (1) dX9_parts_58 (by decide) ?_
      refine jr_icmp_ne 72 dX9_parts_59 (by decide) (fun c_59 => ?_) (fun c_59 => ?_)
      · refine jr_iconst (0) dX9_parts_72 (by decide) ?_
        refine jr_iadd dX9_parts_73 ?_
        first | rw [Int32.add_zero] | rw [nI_add]
        refine jr_istore_5 dX9_parts_74 (by decide) rfl ?_
        refine jr_iinc_6 (nI (k + 1)) dX9_parts_76 (inc1 k) (by decide) rfl ?_
        refine jr_goto 38 dX9_parts_79 (by decide) ?_
        have hq : sumP s t S (k + 1) = sumP s t S k + (if pbit S k then stkF s k t else 0) := rfl
        first | (rw [if_pos c_59] at hq; rw [← hq]; exact ih (k + 1) _ (by omega) (hS.tr hS2)) | (rw [if_neg c_59] at hq; have hq2 : sumP s t S (k + 1) = sumP s t S k := hq; rw [← hq2]; exact ih (k + 1) _ (by omega) hS)
      · refine jr_aload_n dX9_parts_62 rfl ?_
        refine jr_iload dX9_parts_63 rfl ?_
        refine jr_iload_n dX9_parts_65 rfl ?_
        refine jc_Vi (c_strikes g _ hw1 s hs1 hG k t (by omega) ht) lkX9_115 (hw1.k rfl) rfl rfl (Nat.le_of_ble_eq_true rfl) (Nat.le_of_ble_eq_true rfl) dX9_parts_66 (fun r_66 w_66 h_66 => ?_)
        obtain ⟨rfl, hS2⟩ := h_66
        refine jr_goto 73 dX9_parts_69 (by decide) ?_
        refine jr_iadd dX9_parts_73 ?_
        first | rw [Int32.add_zero] | rw [nI_add]
        refine jr_istore_5 dX9_parts_74 (by decide) rfl ?_
        refine jr_iinc_6 (nI (k + 1)) dX9_parts_76 (inc1 k) (by decide) rfl ?_
        refine jr_goto 38 dX9_parts_79 (by decide) ?_
        have hq : sumP s t S (k + 1) = sumP s t S k + (if pbit S k then stkF s k t else 0) := rfl
        first | (rw [if_pos c_59] at hq; rw [← hq]; exact ih (k + 1) _ (by omega) (hS.tr hS2)) | (rw [if_neg c_59] at hq; have hq2 : sumP s t S (k + 1) = sumP s t S k := hq; rw [← hq2]; exact ih (k + 1) _ (by omega) hS)
  have L1 : ∀ (t : Nat), t < 720 → x = nI t → 0 ≤ n.toInt → ∀ (f S : Nat) (w1 : Wd) (a5 a6 : Option Value), f + S = 2 ^ sN s 0 → Sm scM w w1 → RR g RX9 cX9_parts 7 (some .int) "parts" 5 0 0 0 0 19 [some (.ref (gb g + 78)), some (.int x), some (.int n), some (.int (nI (cntP s t n S))), some (.int (nI S)), a5, a6] [] w1 Q := by
    intro t ht ex hn f
    induction f with
    | zero =>
      intro S w1 a5 a6 hk hS
      have e : S = 2 ^ sN s 0 := by omega
      subst e
      have hw1 := hS.wf hw
      have hs1 : wI w1 79 = s := (hS.row (scM_n (by decide))).trans hs
      refine jr_iload dX9_parts_19 rfl ?_
      refine jr_iconst (1) dX9_parts_21 (by decide) ?_
      refine jr_aload_n dX9_parts_22 rfl ?_
      refine gfX9_7 79 dX9_parts_23 (hw1.k rfl) (hw1.f rfl) ?_
      refine jr_iconst (0) dX9_parts_26 (by decide) ?_
      refine jr_iald 0 (hw1.k rfl) rfl (by decide) dX9_parts_27 ?_
      refine jr_ishl dX9_parts_28 ?_
      rw [hs1, h0.1, shl_1 _ h6]
      refine jr_icmp_ge 102 dX9_parts_29 (by decide) (fun c_29 => ?_) (fun c_29 => absurd (Int32.le_refl _) c_29)
      refine jr_iload_n dX9_parts_102 rfl ?_
      refine jr_iret rfl dX9_parts_103 ?_
      refine hQ _ _ ⟨?_, MS.m hs hS⟩
      subst ex
      have et := i_nI (n := t) (by omega)
      rw [F_parts, if_pos (by unfold inR; omega), nI_clamp (by omega)]
    | succ f ih =>
      intro S w1 a5 a6 hk hS
      have hw1 := hS.wf hw
      have hs1 : wI w1 79 = s := (hS.row (scM_n (by decide))).trans hs
      have K : ∀ (w2 : Wd) (a6 : Option Value), Sm scM w w2 → RR g RX9 cX9_parts 7 (some .int) "parts" 5 0 0 0 0 82 [some (.ref (gb g + 78)), some (.int x), some (.int n), some (.int (nI (cntP s t n S))), some (.int (nI S)), some (.int (nI (sumP s t S (sN s 0)))), a6] [] w2 Q := by
        intro w2 a6 hS2
        refine jr_iload_n dX9_parts_82 rfl ?_
        refine jr_iload dX9_parts_83 rfl ?_
        refine jr_iload_n dX9_parts_85 rfl ?_
        refine jr_icmp_ne 93 dX9_parts_86 (by decide) (fun c_86 => ?_) (fun c_86 => ?_)
        · refine jr_iconst (0) dX9_parts_93 (by decide) ?_
          refine jr_iadd dX9_parts_94 ?_
          first | rw [Int32.add_zero] | rw [nI_1]
          refine jr_istore_3 dX9_parts_95 (by decide) rfl ?_
          refine jr_iinc_4 (nI (S + 1)) dX9_parts_96 (inc1 S) (by decide) rfl ?_
          refine jr_goto 19 dX9_parts_99 (by decide) ?_
          have hq : cntP s t n (S + 1) = cntP s t n S + (if nI (sumP s t S (sN s 0)) = n then 1 else 0) := rfl
          first | (rw [if_pos c_86] at hq; rw [← hq]; exact ih (S + 1) _ _ _ (by omega) hS2) | (rw [if_neg c_86] at hq; have hq2 : cntP s t n (S + 1) = cntP s t n S := hq; rw [← hq2]; exact ih (S + 1) _ _ _ (by omega) hS2)
        · refine jr_iconst (1) dX9_parts_89 (by decide) ?_
          refine jr_goto 94 dX9_parts_90 (by decide) ?_
          refine jr_iadd dX9_parts_94 ?_
          first | rw [Int32.add_zero] | rw [nI_1]
          refine jr_istore_3 dX9_parts_95 (by decide) rfl ?_
          refine jr_iinc_4 (nI (S + 1)) dX9_parts_96 (inc1 S) (by decide) rfl ?_
          refine jr_goto 19 dX9_parts_99 (by decide) ?_
          have hq : cntP s t n (S + 1) = cntP s t n S + (if nI (sumP s t S (sN s 0)) = n then 1 else 0) := rfl
          first | (rw [if_pos c_86] at hq; rw [← hq]; exact ih (S + 1) _ _ _ (by omega) hS2) | (rw [if_neg c_86] at hq; have hq2 : cntP s t n (S + 1) = cntP s t n S := hq; rw [← hq2]; exact ih (S + 1) _ _ _ (by omega) hS2)
      refine jr_iload dX9_parts_19 rfl ?_
      refine jr_iconst (1) dX9_parts_21 (by decide) ?_
      refine jr_aload_n dX9_parts_22 rfl ?_
      refine gfX9_7 79 dX9_parts_23 (hw1.k rfl) (hw1.f rfl) ?_
      refine jr_iconst (0) dX9_parts_26 (by decide) ?_
      refine jr_iald 0 (hw1.k rfl) rfl (by decide) dX9_parts_27 ?_
      refine jr_ishl dX9_parts_28 ?_
      rw [hs1, h0.1, shl_1 _ h6]
      refine jr_icmp_ge 102 dX9_parts_29 (by decide) (fun c_29 => absurd c_29 (nI_ge (by omega) (by omega))) (fun c_29 => ?_)
      refine jr_iconst (0) dX9_parts_32 (by decide) ?_
      refine jr_istore_5 dX9_parts_33 (by decide) rfl ?_
      refine jr_iconst (0) dX9_parts_35 (by decide) ?_
      refine jr_istore_6 dX9_parts_36 (by decide) rfl ?_
      exact L2 t ht ex _ S K (sN s 0) 0 w1 (by omega) hS
  refine jr_iload_n dX9_parts_0 rfl ?_
  refine jc_Si (c_isTime g _ _) lkX9_131 rfl rfl (Nat.le_of_ble_eq_true rfl) (Nat.le_of_ble_eq_true rfl) dX9_parts_1 (fun r_1 w_1 h_1 => ?_)
  obtain ⟨rfl, rfl⟩ := h_1
  refine jr_if_eq 11 dX9_parts_4 (by decide) (fun c_4 => ?_) (fun c_4 => ?_)
  · rw [jb_0] at c_4
    refine jr_ldc (-1000000001) ckX9_83 dX9_parts_11 ?_
    refine jr_iret rfl dX9_parts_13 ?_
    exact hQ _ _ ⟨by rw [F_parts, if_neg (by unfold inR; omega)], MS.rf hs⟩
  · rw [jb_1] at c_4
    refine jr_iload_n dX9_parts_7 rfl ?_
    refine jr_if_ge 14 dX9_parts_8 (by decide) (fun c_8 => ?_) (fun c_8 => ?_)
    · simp only [lt_i, le_i, eq_i, Int32.reduceToInt] at c_8
      obtain ⟨t, ht, ex⟩ := i_of (n := 720) c_4.1 c_4.2
      refine jr_iconst (0) dX9_parts_14 (by decide) ?_
      refine jr_istore_3 dX9_parts_15 (by decide) rfl ?_
      refine jr_iconst (0) dX9_parts_16 (by decide) ?_
      refine jr_istore_4 dX9_parts_17 (by decide) rfl ?_
      exact L1 t ht ex c_8 (2 ^ sN s 0) 0 w none none (by omega) Sm.rf
    · simp only [lt_i, le_i, eq_i, Int32.reduceToInt] at c_8
      refine jr_ldc (-1000000001) ckX9_83 dX9_parts_11 ?_
      refine jr_iret rfl dX9_parts_13 ?_
      exact hQ _ _ ⟨by rw [F_parts, if_neg (by unfold inR; omega)], MS.rf hs⟩
def T_out (s : Nat → Int32) (k t : Nat) : Nat := totT s t - stkF s k t
theorem stk_tot (s : Nat → Int32) (t : Nat) {k : Nat} : ∀ n, k < n → stkF s k t ≤ totF s t n
  | 0, h => absurd h (by omega)
  | n + 1, h => by
    simp only [totF]
    by_cases e : k = n
    · subst e; omega
    · have := stk_tot s t (k := k) n (by omega)
      omega
/-- which clock is wrong, among the first k: its number and how many times fit without it; -1, -1 at first -/
def asF (s : Nat → Int32) : Nat → Int32 × Int32
  | 0 => (-1, -1)
  | k + 1 => if (asF s k).2.toInt < (nI (cntB (fitP s (T_out s k)) 720)).toInt then (nI k, nI (cntB (fitP s (T_out s k)) 720)) else asF s k
def F_astray (s : Nat → Int32) (x : Int32) : Int32 := if inR x 0 1 then (if (asF s (sN s 0)).1.toInt < 0 then -1000000005 else if x.toInt = 0 then (asF s (sN s 0)).1 else (asF s (sN s 0)).2) else -1000000001
theorem m_astray (g : Cx) (w : Wd) (hw : Wf w) (s : Nat → Int32) (hs : wI w 79 = s) (hG : Gd s) (x : Int32) : CI g yX9_astray cX9_astray 6 (some .int) 7 0 0 [.ref (gb g + 78), .int x] w (fun r w' => r = F_astray s x ∧ MS w w' s) := by
  obtain ⟨h0, -⟩ := id hG
  have h6 := h0.2
  have hT1 : ∀ t, totT s t ≤ 1000 := tot_1000 hG
  refine CI.of (own := RX9) (nm := "astray") (lv := [some (.ref (gb g + 78)), some (.int x), none, none, none, none]) (by decide) rfl rfl (Nat.le_of_ble_eq_true rfl) rfl (fun Q hQ => ?_)
  have L : inR x 0 1 → ∀ (f k : Nat) (w1 : Wd) (a5 : Option Value), f + k = sN s 0 → Sm scA w w1 → AllR (wI w1 90) (totT s) → RR g RX9 cX9_astray 6 (some .int) "astray" 7 0 0 0 0 24 [some (.ref (gb g + 78)), some (.int x), some (.int (asF s k).1), some (.int (asF s k).2), some (.int (nI k)), a5] [] w1 Q := by
    intro hx f
    induction f with
    | zero =>
      intro k w1 a5 hk hS hA
      have e : k = sN s 0 := by omega
      subst e
      have hw1 := hS.wf hw
      have hs1 : wI w1 79 = s := (hS.row (scA_n (by decide))).trans hs
      refine jr_iload dX9_astray_24 rfl ?_
      refine jr_aload_n dX9_astray_26 rfl ?_
      refine gfX9_7 79 dX9_astray_27 (hw1.k rfl) (hw1.f rfl) ?_
      refine jr_iconst (0) dX9_astray_30 (by decide) ?_
      refine jr_iald 0 (hw1.k rfl) rfl (by decide) dX9_astray_31 ?_
      refine jr_icmp_ge 87 dX9_astray_32 (by decide) (fun c_32 => ?_) (fun c_32 => absurd (by rw [hs1, h0.1]; exact Int32.le_refl _) c_32)
      refine jr_iload_n dX9_astray_87 rfl ?_
      refine jr_if_ge 96 dX9_astray_88 (by decide) (fun c_88 => ?_) (fun c_88 => ?_)
      · simp only [lt_i, le_i, eq_i, Int32.reduceToInt] at c_88
        refine jr_iload_n dX9_astray_96 rfl ?_
        refine jr_if_ne 104 dX9_astray_97 (by decide) (fun c_97 => ?_) (fun c_97 => ?_)
        · simp only [lt_i, le_i, eq_i, Int32.reduceToInt] at c_97
          refine jr_iload_n dX9_astray_104 rfl ?_
          refine jr_iret rfl dX9_astray_105 ?_
          refine hQ _ _ ⟨?_, MS.a hs hS⟩
          rw [F_astray, if_pos hx]
          first | rw [if_pos (by omega)] | rw [if_neg (by omega), if_pos (by omega)] | rw [if_neg (by omega), if_neg (by omega)]
        · simp only [lt_i, le_i, eq_i, Int32.reduceToInt] at c_97
          refine jr_iload_n dX9_astray_100 rfl ?_
          refine jr_goto 105 dX9_astray_101 (by decide) ?_
          refine jr_iret rfl dX9_astray_105 ?_
          refine hQ _ _ ⟨?_, MS.a hs hS⟩
          rw [F_astray, if_pos hx]
          first | rw [if_pos (by omega)] | rw [if_neg (by omega), if_pos (by omega)] | rw [if_neg (by omega), if_neg (by omega)]
      · simp only [lt_i, le_i, eq_i, Int32.reduceToInt] at c_88
        refine jr_ldc (-1000000005) ckX9_67 dX9_astray_91 ?_
        refine jr_goto 105 dX9_astray_93 (by decide) ?_
        refine jr_iret rfl dX9_astray_105 ?_
        refine hQ _ _ ⟨?_, MS.a hs hS⟩
        rw [F_astray, if_pos hx]
        first | rw [if_pos (by omega)] | rw [if_neg (by omega), if_pos (by omega)] | rw [if_neg (by omega), if_neg (by omega)]
    | succ f ih =>
      intro k w1 a5 hk hS hA
      have hw1 := hS.wf hw
      have hs1 : wI w1 79 = s := (hS.row (scA_n (by decide))).trans hs
      have hst : ∀ t, stkF s k t ≤ totT s t := fun t => stk_tot s t (k := k) (sN s 0) (by omega)
      have hm1 : ∀ t, t < 720 → nI (totT s t) + (-1) * nI (stkF s k t) = nI (T_out s k t) := fun t _ => by
        rw [T_out, ← pk_sub (hst t), Int32.neg_mul, Int32.one_mul, ← Int32.sub_eq_add_neg]
      have hm2 : ∀ t, t < 720 → nI (T_out s k t) + 1 * nI (stkF s k t) = nI (totT s t) := fun t _ => by
        have := hst t
        rw [Int32.one_mul, nI_add, T_out]
        congr 1
        omega
      have hto : ∀ t, T_out s k t ≤ 1000 := fun t => Nat.le_trans (Nat.sub_le _ _) (hT1 t)
      have hasf : asF s (k + 1) = if (asF s k).2.toInt < (nI (cntB (fitP s (T_out s k)) 720)).toInt then (nI k, nI (cntB (fitP s (T_out s k)) 720)) else asF s k := rfl
      refine jr_iload dX9_astray_24 rfl ?_
      refine jr_aload_n dX9_astray_26 rfl ?_
      refine gfX9_7 79 dX9_astray_27 (hw1.k rfl) (hw1.f rfl) ?_
      refine jr_iconst (0) dX9_astray_30 (by decide) ?_
      refine jr_iald 0 (hw1.k rfl) rfl (by decide) dX9_astray_31 ?_
      refine jr_icmp_ge 87 dX9_astray_32 (by decide) (fun c_32 => absurd c_32 (by rw [hs1, h0.1]; exact nI_ge (by omega) (by omega))) (fun c_32 => ?_)
      refine jr_aload_n dX9_astray_35 rfl ?_
      refine jr_iload dX9_astray_36 rfl ?_
      refine jr_iconst (-1) dX9_astray_38 (by decide) ?_
      refine jc_Vv (c_findMore g _ hw1 s hs1 hG k (by omega) _ _ _ hA hm1) lkX9_171 (hw1.k rfl) rfl rfl (Nat.le_of_ble_eq_true rfl) (Nat.le_of_ble_eq_true rfl) dX9_astray_39 (fun w_39 h_39 => ?_)
      obtain ⟨hA2, hS2⟩ := h_39
      have hw2 := hS2.wf hw1
      have hs2 : wI w_39 79 = s := (hS2.row (scA_n (by decide))).trans hs1
      refine jr_aload_n dX9_astray_42 rfl ?_
      refine jc_Vi (c_manyFit g _ hw2 s hs2 hG _ hto hA2) lkX9_164 (hw2.k rfl) rfl rfl (Nat.le_of_ble_eq_true rfl) (Nat.le_of_ble_eq_true rfl) dX9_astray_43 (fun r_43 w_43 h_43 => ?_)
      obtain ⟨rfl, rfl⟩ := h_43
      refine jr_istore_5 dX9_astray_46 (by decide) rfl ?_
      refine jr_aload_n dX9_astray_48 rfl ?_
      refine jr_iload dX9_astray_49 rfl ?_
      refine jr_iconst (1) dX9_astray_51 (by decide) ?_
      refine jc_Vv (c_findMore g _ hw2 s hs2 hG k (by omega) _ _ _ hA2 hm2) lkX9_171 (hw2.k rfl) rfl rfl (Nat.le_of_ble_eq_true rfl) (Nat.le_of_ble_eq_true rfl) dX9_astray_52 (fun w_52 h_52 => ?_)
      obtain ⟨hA3, hS3⟩ := h_52
      refine jr_iload dX9_astray_55 rfl ?_
      refine jr_iload_n dX9_astray_57 rfl ?_
      refine jr_icmp_le 66 dX9_astray_58 (by decide) (fun c_58 => ?_) (fun c_58 => ?_)
      · simp only [lt_i, le_i, eq_i, Int32.reduceToInt] at c_58
        rw [if_neg (show ¬ (asF s k).2.toInt < (nI (cntB (fitP s (T_out s k)) 720)).toInt from Int.not_lt.mpr c_58)] at hasf
        refine jr_iload_n dX9_astray_66 rfl ?_
        refine jr_istore_2 dX9_astray_67 (by decide) rfl ?_
        refine jr_iload dX9_astray_68 rfl ?_
        refine jr_iload_n dX9_astray_70 rfl ?_
        refine jr_icmp_le 79 dX9_astray_71 (by decide) (fun c_71 => ?_) (fun c_71 => ?_)
        · simp only [lt_i, le_i, eq_i, Int32.reduceToInt] at c_71
          refine jr_iload_n dX9_astray_79 rfl ?_
          refine jr_istore_3 dX9_astray_80 (by decide) rfl ?_
          refine jr_iinc_4 (nI (k + 1)) dX9_astray_81 (inc1 k) (by decide) rfl ?_
          refine jr_goto 24 dX9_astray_84 (by decide) ?_
          first | (have h9 := ih (k + 1) _ (some (.int (nI (cntB (fitP s (T_out s k)) 720)))) (by omega) ((hS.tr hS2).tr hS3) hA3; rw [hasf] at h9; exact h9) | exact absurd c_71 c_58 | exact absurd c_58 c_71
        · simp only [lt_i, le_i, eq_i, Int32.reduceToInt] at c_71
          refine jr_iload dX9_astray_74 rfl ?_
          refine jr_goto 80 dX9_astray_76 (by decide) ?_
          refine jr_istore_3 dX9_astray_80 (by decide) rfl ?_
          refine jr_iinc_4 (nI (k + 1)) dX9_astray_81 (inc1 k) (by decide) rfl ?_
          refine jr_goto 24 dX9_astray_84 (by decide) ?_
          first | (have h9 := ih (k + 1) _ (some (.int (nI (cntB (fitP s (T_out s k)) 720)))) (by omega) ((hS.tr hS2).tr hS3) hA3; rw [hasf] at h9; exact h9) | exact absurd c_71 c_58 | exact absurd c_58 c_71
      · simp only [lt_i, le_i, eq_i, Int32.reduceToInt] at c_58
        rw [if_pos (show (asF s k).2.toInt < (nI (cntB (fitP s (T_out s k)) 720)).toInt from Int.not_le.mp c_58)] at hasf
        refine jr_iload dX9_astray_61 rfl ?_
        refine jr_goto 67 dX9_astray_63 (by decide) ?_
        refine jr_istore_2 dX9_astray_67 (by decide) rfl ?_
        refine jr_iload dX9_astray_68 rfl ?_
        refine jr_iload_n dX9_astray_70 rfl ?_
        refine jr_icmp_le 79 dX9_astray_71 (by decide) (fun c_71 => ?_) (fun c_71 => ?_)
        · simp only [lt_i, le_i, eq_i, Int32.reduceToInt] at c_71
          refine jr_iload_n dX9_astray_79 rfl ?_
          refine jr_istore_3 dX9_astray_80 (by decide) rfl ?_
          refine jr_iinc_4 (nI (k + 1)) dX9_astray_81 (inc1 k) (by decide) rfl ?_
          refine jr_goto 24 dX9_astray_84 (by decide) ?_
          first | (have h9 := ih (k + 1) _ (some (.int (nI (cntB (fitP s (T_out s k)) 720)))) (by omega) ((hS.tr hS2).tr hS3) hA3; rw [hasf] at h9; exact h9) | exact absurd c_71 c_58 | exact absurd c_58 c_71
        · simp only [lt_i, le_i, eq_i, Int32.reduceToInt] at c_71
          refine jr_iload dX9_astray_74 rfl ?_
          refine jr_goto 80 dX9_astray_76 (by decide) ?_
          refine jr_istore_3 dX9_astray_80 (by decide) rfl ?_
          refine jr_iinc_4 (nI (k + 1)) dX9_astray_81 (inc1 k) (by decide) rfl ?_
          refine jr_goto 24 dX9_astray_84 (by decide) ?_
          first | (have h9 := ih (k + 1) _ (some (.int (nI (cntB (fitP s (T_out s k)) 720)))) (by omega) ((hS.tr hS2).tr hS3) hA3; rw [hasf] at h9; exact h9) | exact absurd c_71 c_58 | exact absurd c_58 c_71
  refine jr_iload_n dX9_astray_0 rfl ?_
  refine jr_i2l dX9_astray_1 ?_
  refine jr_lconst 0 dX9_astray_2 (by decide) ?_
  refine jr_lconst 1 dX9_astray_3 (by decide) ?_
  refine jc_Si (c_isInI g _ _ _ _) lkX9_68 rfl rfl (Nat.le_of_ble_eq_true rfl) (Nat.le_of_ble_eq_true rfl) dX9_astray_4 (fun r_4 w_4 h_4 => ?_)
  obtain ⟨rfl, rfl⟩ := h_4
  refine jr_if_ne 13 dX9_astray_7 (by decide) (fun c_7 => ?_) (fun c_7 => ?_)
  · rw [jb_1] at c_7
    simp only [Int64.reduceToInt] at c_7
    refine jr_aload_n dX9_astray_13 rfl ?_
    refine jc_Vv (c_findAll g _ hw s hs hG) lkX9_161 (hw.k rfl) rfl rfl (Nat.le_of_ble_eq_true rfl) (Nat.le_of_ble_eq_true rfl) dX9_astray_14 (fun w_14 h_14 => ?_)
    obtain ⟨hA, hS⟩ := h_14
    refine jr_iconst (-1) dX9_astray_17 (by decide) ?_
    refine jr_istore_2 dX9_astray_18 (by decide) rfl ?_
    refine jr_iconst (-1) dX9_astray_19 (by decide) ?_
    refine jr_istore_3 dX9_astray_20 (by decide) rfl ?_
    refine jr_iconst (0) dX9_astray_21 (by decide) ?_
    refine jr_istore_4 dX9_astray_22 (by decide) rfl ?_
    exact L (by unfold inR; omega) (sN s 0) 0 _ none (by omega) hS hA
  · rw [jb_0] at c_7
    simp only [Int64.reduceToInt] at c_7
    refine jr_ldc (-1000000001) ckX9_83 dX9_astray_10 ?_
    refine jr_iret rfl dX9_astray_12 ?_
    exact hQ _ _ ⟨by rw [F_astray, if_neg (by unfold inR; omega)], MS.rf hs⟩
