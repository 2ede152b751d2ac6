-- the class: parts, which clock is wrong, how late one had best be taken to be, texts
theorem p_parts (g : Cx) (w : Wd) (hw : Wf w) (s : Nat → Int32) (hG : Gd s) (hN : NR w 1 s) (x n : Int32) : CI g yX8_parts cX8_parts 7 (some .int) 5 0 0 [.ref (gb g + 0), .int x, .int n] w (fun r w' => r = F_parts s x n ∧ CN w w' s) := by
  obtain ⟨h0, -, hmi, -, -, h8, hC, hNo, hX⟩ := id hG
  have h6 := h0.2
  have h64 : 2 ^ sN s 0 ≤ 64 := Nat.le_trans (Nat.pow_le_pow_right (by decide) h6) (by decide)
  refine CI.of (own := RX8) (nm := "parts") (lv := [some (.ref (gb g + 0)), some (.int x), some (.int n), none, none, none, none]) (by decide) rfl rfl (Nat.le_of_ble_eq_true rfl) rfl (fun Q hQ => ?_)
  by_cases hc : inR x 0 719 ∧ 0 ≤ n.toInt
  · have hxr : 0 ≤ x.toInt ∧ x.toInt < 720 := by have := hc.1; unfold inR at this; omega
    obtain ⟨t, ht, et⟩ := i_of (n := 720) (x := x) hxr.1 hxr.2
    subst et
    have etc : (nI t).toNatClampNeg = t := nI_clamp (by omega)
    have eF : F_parts s (nI t) n = nI (cntP s t n (2 ^ sN s 0)) := by rw [F_parts, if_pos hc, etc]
    rw [eF] at hQ
    have L : ∀ (f S : Nat) (w1 : Wd) (a5 a6 : Option Value), jc1 a5 = true → f + S = 2 ^ sN s 0 → Sm scY w w1 → RR g RX8 cX8_parts 7 (some .int) "parts" 5 0 0 0 0 22 [some (.ref (gb g + 0)), some (.int (nI t)), some (.int n), some (.int (nI (cntP s t n S))), some (.int (nI S)), a5, a6] [] w1 Q := by
      intro f
      induction f with
      | zero =>
        intro S w1 a5 a6 j5 hf hS
        have e : S = 2 ^ sN s 0 := by omega
        subst e
        have hw1 := hS.wf hw
        have hN1 := hN.y NA1 hS
        refine jr_iload dX8_parts_22 rfl ?_
        refine jr_iconst (1) dX8_parts_24 (by decide) ?_
        refine jr_aload_n dX8_parts_25 rfl ?_
        refine gfX8_12 1 dX8_parts_26 (hw1.k rfl) (hw1.f rfl) ?_
        refine gfX8_81 dX8_parts_29 (hw1.k rfl) ?_
        rw [hN1.1.1, h0.1]
        refine jr_ishl dX8_parts_32 ?_
        rw [shl_1 _ h6]
        refine jr_icmp_ge 109 dX8_parts_33 (by decide) (fun c_33 => ?_) (fun c_33 => absurd (Int32.le_refl _) c_33)
        refine jr_iload_n dX8_parts_109 rfl ?_
        refine jr_iret rfl dX8_parts_110 ?_
        exact hQ _ _ ⟨rfl, CN.y hN hS⟩
      | succ f ih =>
        intro S w1 a5 a6 j5 hf hS
        have hw1 := hS.wf hw
        have hN1 := hN.y NA1 hS
        have L2 : ∀ (f2 k : Nat) (w2 : Wd), f2 + k = sN s 0 → Sm scY w w2 → RR g RX8 cX8_parts 7 (some .int) "parts" 5 0 0 0 0 42 [some (.ref (gb g + 0)), some (.int (nI t)), some (.int n), some (.int (nI (cntP s t n S))), some (.int (nI S)), some (.int (nI (sumP s t S k))), some (.int (nI k))] [] w2 Q := by
          intro f2
          induction f2 with
          | zero =>
            intro k w2 hk hS2
            have e : k = sN s 0 := by omega
            subst e
            have hw1 := hS2.wf hw
            have hN1 := hN.y NA1 hS2
            have h9 := fun a5 a6 h => ih (S + 1) w2 a5 a6 h (by omega) hS2
            simp only [cntP] at h9
            refine jr_iload dX8_parts_42 rfl ?_
            refine jr_aload_n dX8_parts_44 rfl ?_
            refine gfX8_12 1 dX8_parts_45 (hw1.k rfl) (hw1.f rfl) ?_
            refine gfX8_81 dX8_parts_48 (hw1.k rfl) ?_
            rw [hN1.1.1, h0.1]
            refine jr_icmp_ge 94 dX8_parts_51 (by decide) (fun c_51 => ?_) (fun c_51 => absurd (Int32.le_refl _) c_51)
            refine jr_iload dX8_parts_94 rfl ?_
            refine jr_iload_n dX8_parts_96 rfl ?_
            refine jr_icmp_ne 103 dX8_parts_97 (by decide) (fun c_97 => ?_) (fun c_97 => ?_)
            · refine jr_iinc_4 (nI (S + 1)) dX8_parts_103 (inc1 S) (by decide) rfl ?_
              refine jr_goto 22 dX8_parts_106 (by decide) ?_
              first | (rw [if_pos c_97] at h9; exact h9 _ _ rfl) | (rw [if_neg c_97, Nat.add_zero] at h9; exact h9 _ _ rfl)
            · refine jr_iinc_3 (nI (cntP s t n S + 1)) dX8_parts_100 (inc1 _) (by decide) rfl ?_
              refine jr_iinc_4 (nI (S + 1)) dX8_parts_103 (inc1 S) (by decide) rfl ?_
              refine jr_goto 22 dX8_parts_106 (by decide) ?_
              first | (rw [if_pos c_97] at h9; exact h9 _ _ rfl) | (rw [if_neg c_97, Nat.add_zero] at h9; exact h9 _ _ rfl)
          | succ f2 ih2 =>
            intro k w2 hk hS2
            have hw1 := hS2.wf hw
            have hN1 := hN.y NA1 hS2
            have hk6 : k < 6 := by omega
            have h9 := fun w3 h => ih2 (k + 1) w3 (by omega) h
            simp only [sumP] at h9
            refine jr_iload dX8_parts_42 rfl ?_
            refine jr_aload_n dX8_parts_44 rfl ?_
            refine gfX8_12 1 dX8_parts_45 (hw1.k rfl) (hw1.f rfl) ?_
            refine gfX8_81 dX8_parts_48 (hw1.k rfl) ?_
            rw [hN1.1.1, h0.1]
            refine jr_icmp_ge 94 dX8_parts_51 (by decide) (fun c_51 => absurd c_51 (nI_ge (by omega) (by omega))) (fun c_51 => ?_)
            refine jr_iload dX8_parts_54 rfl ?_
            refine jr_iload dX8_parts_56 rfl ?_
            refine jr_ishr dX8_parts_58 ?_
            refine jr_iconst (1) dX8_parts_59 (by decide) ?_
            refine jr_iand dX8_parts_60 ?_
            refine jr_iconst (1) dX8_parts_61 (by decide) ?_
            refine jr_icmp_ne 88 dX8_parts_62 (by decide) (fun c_62 => ?_) (fun c_62 => ?_)
            · refine jr_iinc_6 (nI (k + 1)) dX8_parts_88 (inc1 k) (by decide) rfl ?_
              refine jr_goto 42 dX8_parts_91 (by decide) ?_
              first | (rw [if_pos c_62] at h9; exact h9 _ (hS2.tr (yk hS3))) | (rw [if_neg c_62, Nat.add_zero] at h9; exact h9 _ hS2)
            · refine jr_iload dX8_parts_65 rfl ?_
              refine jr_aload_n dX8_parts_67 rfl ?_
              refine gfX8_12 1 dX8_parts_68 (hw1.k rfl) (hw1.f rfl) ?_
              refine jr_aload_n dX8_parts_71 rfl ?_
              refine gfX8_12 1 dX8_parts_72 (hw1.k rfl) (hw1.f rfl) ?_
              refine gfX8_93 2 dX8_parts_75 (hw1.k rfl) (hw1.f rfl) ?_
              refine jr_iload dX8_parts_78 rfl ?_
              refine jr_aald k (hw1.k rfl) (by decide) rfl ⟨hk6, by decide⟩ (by rw [rk1 hw1 hk6, jrf_s]) dX8_parts_80 ?_
              refine jr_iload_n dX8_parts_81 rfl ?_
              refine jc_Vi (c_strokesAt g _ hw1 1 NA1 s hG hN1 _ _ _ _ (hN1.ck NA1 hw1 hC hk6) t ht) lkX8_112 (hw1.k rfl) rfl rfl (Nat.le_of_ble_eq_true rfl) (Nat.le_of_ble_eq_true rfl) dX8_parts_82 (fun r_82 w_82 h_82 => ?_)
              obtain ⟨rfl, hS3⟩ := h_82
              refine jr_iadd dX8_parts_85 ?_
              rw [nI_add]
              refine jr_istore_5 dX8_parts_86 (by decide) rfl ?_
              refine jr_iinc_6 (nI (k + 1)) dX8_parts_88 (inc1 k) (by decide) rfl ?_
              refine jr_goto 42 dX8_parts_91 (by decide) ?_
              first | (rw [if_pos c_62] at h9; exact h9 _ (hS2.tr (yk hS3))) | (rw [if_neg c_62, Nat.add_zero] at h9; exact h9 _ hS2)
        refine jr_iload dX8_parts_22 rfl ?_
        refine jr_iconst (1) dX8_parts_24 (by decide) ?_
        refine jr_aload_n dX8_parts_25 rfl ?_
        refine gfX8_12 1 dX8_parts_26 (hw1.k rfl) (hw1.f rfl) ?_
        refine gfX8_81 dX8_parts_29 (hw1.k rfl) ?_
        rw [hN1.1.1, h0.1]
        refine jr_ishl dX8_parts_32 ?_
        rw [shl_1 _ h6]
        refine jr_icmp_ge 109 dX8_parts_33 (by decide) (fun c_33 => absurd c_33 (nI_ge (by omega) (by omega))) (fun c_33 => ?_)
        refine jr_iconst (0) dX8_parts_36 (by decide) ?_
        refine jr_istore_5 dX8_parts_37 (by decide) rfl ?_
        refine jr_iconst (0) dX8_parts_39 (by decide) ?_
        refine jr_istore_6 dX8_parts_40 (by decide) rfl ?_
        exact L2 _ 0 _ rfl hS
    refine jr_iload_n dX8_parts_0 rfl ?_
    refine jr_sipush (720) dX8_parts_1 (by decide) ?_
    refine jc_Si (c_wi g _ _ _ 720 rfl) lkX8_76 rfl rfl (Nat.le_of_ble_eq_true rfl) (Nat.le_of_ble_eq_true rfl) dX8_parts_4 (fun r_4 w_4 h_4 => ?_)
    obtain ⟨rfl, rfl⟩ := h_4
    refine jr_if_eq 14 dX8_parts_7 (by decide) (fun c_7 => absurd c_7 (jb_1.mpr hxr)) (fun c_7 => ?_)
    refine jr_iload_n dX8_parts_10 rfl ?_
    refine jr_if_ge 17 dX8_parts_11 (by decide) (fun c_11 => ?_) (fun c_11 => absurd (by rw [le_i]; exact hc.2) c_11)
    refine jr_iconst (0) dX8_parts_17 (by decide) ?_
    refine jr_istore_3 dX8_parts_18 (by decide) rfl ?_
    refine jr_iconst (0) dX8_parts_19 (by decide) ?_
    refine jr_istore_4 dX8_parts_20 (by decide) rfl ?_
    exact L _ 0 w _ _ rfl rfl Sm.rf
  · refine jr_iload_n dX8_parts_0 rfl ?_
    refine jr_sipush (720) dX8_parts_1 (by decide) ?_
    refine jc_Si (c_wi g _ _ _ 720 rfl) lkX8_76 rfl rfl (Nat.le_of_ble_eq_true rfl) (Nat.le_of_ble_eq_true rfl) dX8_parts_4 (fun r_4 w_4 h_4 => ?_)
    obtain ⟨rfl, rfl⟩ := h_4
    refine jr_if_eq 14 dX8_parts_7 (by decide) (fun c_7 => ?_) (fun c_7 => ?_)
    · rw [jb_0] at c_7
      refine jr_ldc (-1000000001) ckX8_80 dX8_parts_14 ?_
      refine jr_iret rfl dX8_parts_16 ?_
      exact hQ _ _ ⟨by rw [F_parts, if_neg hc], CN.rf hN⟩
    · rw [jb_1] at c_7
      refine jr_iload_n dX8_parts_10 rfl ?_
      refine jr_if_ge 17 dX8_parts_11 (by decide) (fun c_11 => ?_) (fun c_11 => ?_)
      · simp only [lt_i, le_i, eq_i, Int32.reduceToInt] at c_11
        exfalso; exact hc ⟨by unfold inR; omega, by omega⟩
      · simp only [lt_i, le_i, eq_i, Int32.reduceToInt] at c_11
        refine jr_ldc (-1000000001) ckX8_80 dX8_parts_14 ?_
        refine jr_iret rfl dX8_parts_16 ?_
        exact hQ _ _ ⟨by rw [F_parts, if_neg hc], CN.rf hN⟩
theorem neg1_n {a b : Nat} (h : b ≤ a) : nI a + (-1) * nI b = nI (a - b) := by
  rw [Int32.neg_mul, Int32.one_mul, ← Int32.sub_eq_add_neg, pk_sub h]
/-- the class's way of keeping the best: none at first -/
def asC (s : Nat → Int32) (k : Nat) : Int32 × Int32 := if k = 0 then (-1000000005, -1000000005) else asF s k
theorem asF_n (s : Nat → Int32) : ∀ k, ∃ q m, q ≤ k ∧ m ≤ 720 ∧ asF s (k + 1) = (nI q, nI m)
  | 0 => by
    have h := cntB_le (fitP s (T_out s 0)) 720
    refine ⟨0, _, Nat.le_refl _, h, ?_⟩
    have e2 : asF s (0 + 1) = if (asF s 0).2.toInt < (nI (cntB (fitP s (T_out s 0)) 720)).toInt then (nI 0, nI (cntB (fitP s (T_out s 0)) 720)) else asF s 0 := rfl
    rw [e2]
    refine if_pos ?_
    show (-1 : Int) < (nI (cntB (fitP s (T_out s 0)) 720)).toInt
    rw [i_nI (by omega)]
    omega
  | k + 1 => by
    obtain ⟨q, m, h1, h2, e⟩ := asF_n s k
    have h := cntB_le (fitP s (T_out s (k + 1))) 720
    have e2 : asF s (k + 1 + 1) = if (asF s (k + 1)).2.toInt < (nI (cntB (fitP s (T_out s (k + 1))) 720)).toInt then (nI (k + 1), nI (cntB (fitP s (T_out s (k + 1))) 720)) else asF s (k + 1) := rfl
    rw [e2]
    split
    · exact ⟨k + 1, _, by omega, h, rfl⟩
    · exact ⟨q, m, by omega, h2, e⟩
theorem p_astray (g : Cx) (w : Wd) (hw : Wf w) (s : Nat → Int32) (hG : Gd s) (hN : NR w 1 s) (x : Int32) : CI g yX8_astray cX8_astray 6 (some .int) 6 0 0 [.ref (gb g + 0), .int x] w (fun r w' => r = F_astray s x ∧ CN w w' s) := by
  obtain ⟨h0, -, hmi, -, -, h8, hC, hNo, hX⟩ := id hG
  have h6 := h0.2
  refine CI.of (own := RX8) (nm := "astray") (lv := [some (.ref (gb g + 0)), some (.int x), none, none, none, none]) (by decide) rfl rfl (Nat.le_of_ble_eq_true rfl) rfl (fun Q hQ => ?_)
  by_cases hc : inR x 0 1
  · have hxr : 0 ≤ x.toInt ∧ x.toInt < 2 := by have := hc; unfold inR at this; omega
    have L : ∀ (f k : Nat) (w1 : Wd) (a5 : Option Value), f + k = sN s 0 → Sm scY w w1 → AllR (wI w1 35) (totT s) → wI w1 34 2 = s 8 → AlR (wI w1 36) s → RR g RX8 cX8_astray 6 (some .int) "astray" 6 0 0 0 0 42 [some (.ref (gb g + 0)), some (.int x), some (.int (asC s k).1), some (.int (asC s k).2), some (.int (nI k)), a5] [] w1 Q := by
      intro f
      induction f with
      | zero =>
        intro k w1 a5 hf hS hT h2 hAl
        have e : k = sN s 0 := by omega
        subst e
        have hw1 := hS.wf hw
        have hN1 := hN.y NA1 hS
        have eF : F_astray s x = if x.toInt = 0 then (asC s (sN s 0)).1 else (asC s (sN s 0)).2 := by
          rw [F_astray, if_pos hc, asC]
          by_cases hz : sN s 0 = 0
          · rw [hz, if_pos (show (asF s 0).1.toInt < 0 from (by decide : (-1 : Int32).toInt < 0)), if_pos rfl]
            split <;> rfl
          · rw [if_neg hz]
            obtain ⟨q, m, q1, q2, e1⟩ := asF_n s (sN s 0 - 1)
            rw [show sN s 0 - 1 + 1 = sN s 0 by omega] at e1
            rw [e1, if_neg (by rw [i_nI (by omega)]; omega)]
        rw [eF] at hQ
        refine jr_iload dX8_astray_42 rfl ?_
        refine jr_aload_n dX8_astray_44 rfl ?_
        refine gfX8_12 1 dX8_astray_45 (hw1.k rfl) (hw1.f rfl) ?_
        refine gfX8_81 dX8_astray_48 (hw1.k rfl) ?_
        rw [hN1.1.1, h0.1]
        refine jr_icmp_ge 145 dX8_astray_51 (by decide) (fun c_51 => ?_) (fun c_51 => absurd (Int32.le_refl _) c_51)
        refine jr_iload_n dX8_astray_145 rfl ?_
        refine jr_if_ne 153 dX8_astray_146 (by decide) (fun c_146 => ?_) (fun c_146 => ?_)
        · simp only [lt_i, le_i, eq_i, Int32.reduceToInt] at c_146
          refine jr_iload_n dX8_astray_153 rfl ?_
          refine jr_iret rfl dX8_astray_154 ?_
          refine hQ _ _ ⟨?_, CN.y hN hS⟩
          first | rw [if_pos (by omega)] | rw [if_neg (by omega)]
        · simp only [lt_i, le_i, eq_i, Int32.reduceToInt] at c_146
          refine jr_iload_n dX8_astray_149 rfl ?_
          refine jr_goto 154 dX8_astray_150 (by decide) ?_
          refine jr_iret rfl dX8_astray_154 ?_
          refine hQ _ _ ⟨?_, CN.y hN hS⟩
          first | rw [if_pos (by omega)] | rw [if_neg (by omega)]
      | succ f ih =>
        intro k w1 a5 hf hS hT h2 hAl
        have hw1 := hS.wf hw
        have hN1 := hN.y NA1 hS
        have hk6 : k < 6 := by omega
        have hCk := hN1.ck NA1 hw1 hC hk6
        have hst := fun t => stk_tot s t (k := k) (sN s 0) (by omega)
        have hcl := cntB_le (fitP s (T_out s k)) 720
        obtain ⟨v, ev⟩ : ∃ v, v = cntB (fitP s (T_out s k)) 720 := ⟨_, rfl⟩
        have evi : (nI v).toInt = (v : Int) := i_nI (by omega)
        have easF : asF s (k + 1) = if (asF s k).2.toInt < (nI v).toInt then (nI k, nI v) else asF s k := by rw [ev]; rfl
        have hT96 : ∀ t, T_out s k t ≤ 96 := fun t => by have := tot_96 hG t; unfold T_out; omega
        have K111 : ∀ w2, Sm scY w w2 → AllR (wI w2 35) (totT s) → wI w2 34 2 = s 8 → AlR (wI w2 36) s → wI w2 34 3 = nI v → RR g RX8 cX8_astray 6 (some .int) "astray" 6 0 0 0 0 111 [some (.ref (gb g + 0)), some (.int x), some (.int (asC s k).1), some (.int (asC s k).2), some (.int (nI k)), some (.ref (gb g + (1 + 5 + k)))] [] w2 Q := by
          intro w2 hS2 hT2 h22 hAl2 h3
          have hw1 := hS2.wf hw
          have h9 := ih (k + 1) w2 (some (.ref (gb g + (1 + 5 + k)))) (by omega) hS2 hT2 h22 hAl2
          have eC1 : asC s (k + 1) = asF s (k + 1) := if_neg (by omega)
          rw [eC1, easF] at h9
          by_cases hz : k = 0
          · subst hz
            rw [if_pos (by rw [evi]; show (-1 : Int) < _; omega)] at h9
            refine jr_iload_n dX8_astray_111 rfl ?_
            refine jr_ldc (-1000000005) ckX8_168 dX8_astray_112 ?_
            refine jr_icmp_eq 128 dX8_astray_114 (by decide) (fun c_114 => ?_) (fun c_114 => absurd rfl c_114)
            refine jr_iload dX8_astray_128 rfl ?_
            refine jr_istore_2 dX8_astray_130 (by decide) rfl ?_
            refine jr_aload_n dX8_astray_131 rfl ?_
            refine gfX8_29 34 dX8_astray_132 (hw1.k rfl) (hw1.f rfl) ?_
            refine gfX8_185 dX8_astray_135 (hw1.k rfl) ?_
            rw [h3]
            refine jr_istore_3 dX8_astray_138 (by decide) rfl ?_
            refine jr_iinc_4 (nI (0 + 1)) dX8_astray_139 (inc1 _) (by decide) rfl ?_
            refine jr_goto 42 dX8_astray_142 (by decide) ?_
            exact h9
          · have eC : asC s k = asF s k := if_neg hz
            obtain ⟨q, m, q1, q2, e1⟩ := asF_n s (k - 1)
            rw [show k - 1 + 1 = k by omega] at e1
            have emi : (nI m).toInt = (m : Int) := i_nI (by omega)
            rw [eC, e1]
            rw [e1] at h9
            simp only at h9
            have hne : ¬ nI q = -1000000005 := fun h => by
              have h0 := congrArg Int32.toInt h
              rw [i_nI (by omega)] at h0
              have e5 : (-1000000005 : Int32).toInt = -1000000005 := by decide
              rw [e5] at h0
              omega
            refine jr_iload_n dX8_astray_111 rfl ?_
            refine jr_ldc (-1000000005) ckX8_168 dX8_astray_112 ?_
            refine jr_icmp_eq 128 dX8_astray_114 (by decide) (fun c_114 => absurd c_114 hne) (fun c_114 => ?_)
            refine jr_aload_n dX8_astray_117 rfl ?_
            refine gfX8_29 34 dX8_astray_118 (hw1.k rfl) (hw1.f rfl) ?_
            refine gfX8_185 dX8_astray_121 (hw1.k rfl) ?_
            rw [h3]
            refine jr_iload_n dX8_astray_124 rfl ?_
            refine jr_icmp_le 139 dX8_astray_125 (by decide) (fun c_125 => ?_) (fun c_125 => ?_)
            · simp only [lt_i, le_i, eq_i, Int32.reduceToInt] at c_125
              refine jr_iinc_4 (nI (k + 1)) dX8_astray_139 (inc1 k) (by decide) rfl ?_
              refine jr_goto 42 dX8_astray_142 (by decide) ?_
              first | (rw [if_pos (by omega)] at h9; exact h9) | (rw [if_neg (by omega)] at h9; exact h9)
            · simp only [lt_i, le_i, eq_i, Int32.reduceToInt] at c_125
              refine jr_iload dX8_astray_128 rfl ?_
              refine jr_istore_2 dX8_astray_130 (by decide) rfl ?_
              refine jr_aload_n dX8_astray_131 rfl ?_
              refine gfX8_29 34 dX8_astray_132 (hw1.k rfl) (hw1.f rfl) ?_
              refine gfX8_185 dX8_astray_135 (hw1.k rfl) ?_
              rw [h3]
              refine jr_istore_3 dX8_astray_138 (by decide) rfl ?_
              refine jr_iinc_4 (nI (k + 1)) dX8_astray_139 (inc1 k) (by decide) rfl ?_
              refine jr_goto 42 dX8_astray_142 (by decide) ?_
              first | (rw [if_pos (by omega)] at h9; exact h9) | (rw [if_neg (by omega)] at h9; exact h9)
        have K92 : ∀ w2, Sm scY w w2 → AllR (wI w2 35) (T_out s k) → wI w2 34 2 = s 8 → AlR (wI w2 36) s → wI w2 34 3 = nI v → RR g RX8 cX8_astray 6 (some .int) "astray" 6 0 0 0 0 92 [some (.ref (gb g + 0)), some (.int x), some (.int (asC s k).1), some (.int (asC s k).2), some (.int (nI k)), some (.ref (gb g + (1 + 5 + k)))] [] w2 Q := by
          intro w2 hS2 hT2 h22 hAl2 h3
          have hw1 := hS2.wf hw
          have hN2 := hN.y NA1 hS2
          have hCk2 := hN2.ck NA1 hw1 hC hk6
          refine jr_aload_n dX8_astray_92 rfl ?_
          refine gfX8_29 34 dX8_astray_93 (hw1.k rfl) (hw1.f rfl) ?_
          refine jr_aload_n dX8_astray_96 rfl ?_
          refine gfX8_12 1 dX8_astray_97 (hw1.k rfl) (hw1.f rfl) ?_
          refine jr_aload dX8_astray_100 rfl ?_
          refine jr_aload dX8_astray_102 rfl ?_
          refine gfX8_102 dX8_astray_104 (NA1.k hw1 hk6) ?_
          rw [hCk2.2.2.1]
          refine jr_iconst (1) dX8_astray_107 (by decide) ?_
          refine jc_Vv (c_addStrokes g _ hw1 1 NA1 s hG hN2 _ _ _ _ hCk2 (by omega) _ hCk2.2.2.2.2.2.1 1) lkX8_198 (hw1.k rfl) rfl rfl (Nat.le_of_ble_eq_true rfl) (Nat.le_of_ble_eq_true rfl) dX8_astray_108 (fun w_108 h_108 => ?_)
          obtain ⟨hT3, hS3⟩ := h_108
          refine K111 _ (hS2.tr (yq hS3)) (fun t ht => ?_) (by rw [hS3.row (scQ_n (by decide) (by decide))]; exact h22) (by rw [hS3.row (scQ_n (by decide) (by decide))]; exact hAl2) (by rw [hS3.row (scQ_n (by decide) (by decide))]; exact h3)
          rw [hT3 t ht, hT2 t ht, Int32.one_mul, nI_add]
          refine congrArg nI ?_
          have z1 := hst t
          unfold T_out totT
          unfold stkF at z1 ⊢
          omega
        have K85 : ∀ w2, Sm scY w w2 → AllR (wI w2 35) (T_out s k) → wI w2 34 2 = s 8 → AlR (wI w2 36) s → RR g RX8 cX8_astray 6 (some .int) "astray" 6 0 0 0 0 85 [some (.ref (gb g + 0)), some (.int x), some (.int (asC s k).1), some (.int (asC s k).2), some (.int (nI k)), some (.ref (gb g + (1 + 5 + k)))] [] w2 Q := by
          intro w2 hS2 hT2 h22 hAl2
          have hw1 := hS2.wf hw
          refine jr_aload_n dX8_astray_85 rfl ?_
          refine gfX8_29 34 dX8_astray_86 (hw1.k rfl) (hw1.f rfl) ?_
          refine jc_Vv (c_findTimes g _ hw1 s h8 (T_out s k) hT2 hT96 h22 hAl2) lkX8_182 (hw1.k rfl) rfl rfl (Nat.le_of_ble_eq_true rfl) (Nat.le_of_ble_eq_true rfl) dX8_astray_89 (fun w_89 h_89 => ?_)
          obtain ⟨hF, h23, hS3⟩ := h_89
          exact K92 _ (hS2.tr (y34 hS3)) (by rw [hS3.row (by decide)]; exact hT2) h23 (by rw [hS3.row (by decide)]; exact hAl2) (by rw [hF.1, ev])
        refine jr_iload dX8_astray_42 rfl ?_
        refine jr_aload_n dX8_astray_44 rfl ?_
        refine gfX8_12 1 dX8_astray_45 (hw1.k rfl) (hw1.f rfl) ?_
        refine gfX8_81 dX8_astray_48 (hw1.k rfl) ?_
        rw [hN1.1.1, h0.1]
        refine jr_icmp_ge 145 dX8_astray_51 (by decide) (fun c_51 => absurd c_51 (nI_ge (by omega) (by omega))) (fun c_51 => ?_)
        refine jr_aload_n dX8_astray_54 rfl ?_
        refine gfX8_12 1 dX8_astray_55 (hw1.k rfl) (hw1.f rfl) ?_
        refine gfX8_93 2 dX8_astray_58 (hw1.k rfl) (hw1.f rfl) ?_
        refine jr_iload dX8_astray_61 rfl ?_
        refine jr_aald k (hw1.k rfl) (by decide) rfl ⟨hk6, by decide⟩ (by rw [rk1 hw1 hk6, jrf_s]) dX8_astray_63 ?_
        refine jr_astore_5 dX8_astray_64 (by decide) rfl ?_
        refine jr_aload_n dX8_astray_66 rfl ?_
        refine gfX8_29 34 dX8_astray_67 (hw1.k rfl) (hw1.f rfl) ?_
        refine jr_aload_n dX8_astray_70 rfl ?_
        refine gfX8_12 1 dX8_astray_71 (hw1.k rfl) (hw1.f rfl) ?_
        refine jr_aload dX8_astray_74 rfl ?_
        refine jr_aload dX8_astray_76 rfl ?_
        refine gfX8_102 dX8_astray_78 (NA1.k hw1 hk6) ?_
        rw [hCk.2.2.1]
        refine jr_iconst (-1) dX8_astray_81 (by decide) ?_
        refine jc_Vv (c_addStrokes g _ hw1 1 NA1 s hG hN1 _ _ _ _ hCk (by omega) _ hCk.2.2.2.2.2.1 (-1)) lkX8_198 (hw1.k rfl) rfl rfl (Nat.le_of_ble_eq_true rfl) (Nat.le_of_ble_eq_true rfl) dX8_astray_82 (fun w_82 h_82 => ?_)
        obtain ⟨hT3, hS3⟩ := h_82
        refine K85 _ (hS.tr (yq hS3)) (fun t ht => ?_) (by rw [hS3.row (scQ_n (by decide) (by decide))]; exact h2) (by rw [hS3.row (scQ_n (by decide) (by decide))]; exact hAl)
        rw [hT3 t ht, hT t ht]
        exact neg1_n (hst t)
    have K22 : ∀ w1, Sm scY w w1 → AllR (wI w1 35) (totT s) → RR g RX8 cX8_astray 6 (some .int) "astray" 6 0 0 0 0 22 [some (.ref (gb g + 0)), some (.int x), none, none, none, none] [] w1 Q := by
      intro w1 hS hT
      have hw1 := hS.wf hw
      refine jr_aload_n dX8_astray_22 rfl ?_
      refine gfX8_29 34 dX8_astray_23 (hw1.k rfl) (hw1.f rfl) ?_
      refine jr_aload_n dX8_astray_26 rfl ?_
      refine gfX8_12 1 dX8_astray_27 (hw1.k rfl) (hw1.f rfl) ?_
      refine jc_Vv (c_useNotes g _ hw1 1 NA1 s hG (hN.y NA1 hS)) lkX8_179 (hw1.k rfl) rfl rfl (Nat.le_of_ble_eq_true rfl) (Nat.le_of_ble_eq_true rfl) dX8_astray_30 (fun w_30 h_30 => ?_)
      obtain ⟨h2, hAl, hS2⟩ := h_30
      refine jr_ldc (-1000000005) ckX8_168 dX8_astray_33 ?_
      refine jr_istore_2 dX8_astray_35 (by decide) rfl ?_
      refine jr_ldc (-1000000005) ckX8_168 dX8_astray_36 ?_
      refine jr_istore_3 dX8_astray_38 (by decide) rfl ?_
      refine jr_iconst (0) dX8_astray_39 (by decide) ?_
      refine jr_istore_4 dX8_astray_40 (by decide) rfl ?_
      exact L _ 0 _ _ rfl (hS.tr (yu hS2)) (by rw [hS2.row (by unfold scU; omega)]; exact hT) h2 hAl
    refine jr_iload_n dX8_astray_0 rfl ?_
    refine jr_iconst (2) dX8_astray_1 (by decide) ?_
    refine jc_Si (c_wi g _ _ _ 2 rfl) lkX8_76 rfl rfl (Nat.le_of_ble_eq_true rfl) (Nat.le_of_ble_eq_true rfl) dX8_astray_2 (fun r_2 w_2 h_2 => ?_)
    obtain ⟨rfl, rfl⟩ := h_2
    refine jr_if_ne 11 dX8_astray_5 (by decide) (fun c_5 => ?_) (fun c_5 => absurd c_5 (jb_1.mpr hxr))
    refine jr_aload_n dX8_astray_11 rfl ?_
    refine gfX8_29 34 dX8_astray_12 (hw.k rfl) (hw.f rfl) ?_
    refine jr_aload_n dX8_astray_15 rfl ?_
    refine gfX8_12 1 dX8_astray_16 (hw.k rfl) (hw.f rfl) ?_
    refine jc_Vv (c_useClocks g _ hw 1 NA1 s hG hN) lkX8_175 (hw.k rfl) rfl rfl (Nat.le_of_ble_eq_true rfl) (Nat.le_of_ble_eq_true rfl) dX8_astray_19 (fun w_19 h_19 => ?_)
    obtain ⟨hT, hS1⟩ := h_19
    exact K22 _ (yq hS1) hT
  · refine jr_iload_n dX8_astray_0 rfl ?_
    refine jr_iconst (2) dX8_astray_1 (by decide) ?_
    refine jc_Si (c_wi g _ _ _ 2 rfl) lkX8_76 rfl rfl (Nat.le_of_ble_eq_true rfl) (Nat.le_of_ble_eq_true rfl) dX8_astray_2 (fun r_2 w_2 h_2 => ?_)
    obtain ⟨rfl, rfl⟩ := h_2
    refine jr_if_ne 11 dX8_astray_5 (by decide) (fun c_5 => ?_) (fun c_5 => ?_)
    · rw [jb_1] at c_5
      exfalso; exact hc (by unfold inR; omega)
    · rw [jb_0] at c_5
      refine jr_ldc (-1000000001) ckX8_80 dX8_astray_8 ?_
      refine jr_iret rfl dX8_astray_10 ?_
      exact hQ _ _ ⟨by rw [F_astray, if_neg hc], CN.rf hN⟩
/-- the class's way: none at first -/
def rtC (p : Int32 × Int32) : Int32 × Int32 := if p.1.toInt < 0 then (-1000000005, -1000000005) else p
theorem rtF_n (s : Nat → Int32) (k : Nat) : ∀ o, (rtF s k o = (-1, 0)) ∨ ∃ q m, q < o ∧ m ≤ 720 ∧ rtF s k o = (nI q, nI m)
  | 0 => Or.inl rfl
  | o + 1 => by
    have h := cntB_le (fitP s (T_in s k o)) 720
    simp only [rtF]
    split
    · exact Or.inr ⟨o, _, by omega, h, rfl⟩
    · rcases rtF_n s k o with e | ⟨q, m, h1, h2, e⟩
      · exact Or.inl e
      · exact Or.inr ⟨q, m, by omega, h2, e⟩
theorem p_right (g : Cx) (w : Wd) (hw : Wf w) (s : Nat → Int32) (hG : Gd s) (hN : NR w 1 s) (c x : Int32) : CI g yX8_right cX8_right 7 (some .int) 6 0 0 [.ref (gb g + 0), .int c, .int x] w (fun r w' => r = F_right s c x ∧ CN w w' s) := by
  obtain ⟨h0, -, hmi, -, -, h8, hC, hNo, hX⟩ := id hG
  have h6 := h0.2
  refine CI.of (own := RX8) (nm := "right") (lv := [some (.ref (gb g + 0)), some (.int c), some (.int x), none, none, none, none]) (by decide) rfl rfl (Nat.le_of_ble_eq_true rfl) rfl (fun Q hQ => ?_)
  by_cases hc : isC s c ∧ inR x 0 1
  · have hxr : 0 ≤ x.toInt ∧ x.toInt < 2 := by have := hc.2; unfold inR at this; omega
    obtain ⟨k, hk, ek⟩ := i_of (n := sN s 0) (x := c) hc.1.1 hc.1.2
    subst ek
    have hk6 : k < 6 := by omega
    have ekc : (nI k).toNatClampNeg = k := nI_clamp (by omega)
    have hst := fun t => stk_tot s t (k := k) (sN s 0) hk
    have eF : F_right s (nI k) x = if x.toInt = 0 then (rtC (rtF s k 60)).1 else (rtC (rtF s k 60)).2 := by
      rw [F_right, if_pos hc, ekc, rtC]
      by_cases hz : (rtF s k 60).1.toInt < 0
      · rw [if_pos hz, if_pos hz]
        split <;> rfl
      · rw [if_neg hz, if_neg hz]
    rw [eF] at hQ
    have hTi96 : ∀ o t, T_in s k o t ≤ 96 := fun o t => by
      have z1 := tot_le s t (sN s 0)
      have z2 := hst t
      have z3 : stkF s k t + 16 * (sN s 0 - 1) ≥ totF s t (sN s 0) := by
        have key : ∀ n, k < n → totF s t n ≤ stkF s k t + 16 * (n - 1) := by
          intro n
          induction n with
          | zero => intro h; omega
          | succ n ih =>
            intro h
            simp only [totF]
            have zz := stk_le s n t
            by_cases e : k = n
            · subst e
              have := tot_le s t k
              omega
            · have := ih (by omega)
              omega
        exact key _ hk
      have z4 : stkW s (sN s (10 + 3 * k + 0)) o (sN s (10 + 3 * k + 2)) t ≤ 16 := sk_le (ow_lt _ _)
      unfold T_in T_out totT
      omega
    have L : ∀ (f o : Nat) (w1 : Wd), f + o = 60 → Sm scY w w1 → AllR (wI w1 35) (T_out s k) → wI w1 34 2 = s 8 → AlR (wI w1 36) s → RR g RX8 cX8_right 7 (some .int) "right" 6 0 0 0 0 82 [some (.ref (gb g + 0)), some (.int (nI k)), some (.int x), some (.ref (gb g + (1 + 5 + k))), some (.int (rtC (rtF s k o)).1), some (.int (rtC (rtF s k o)).2), some (.int (nI o))] [] w1 Q := by
      intro f
      induction f with
      | zero =>
        intro o w1 hf hS hT h2 hAl
        have e : o = 60 := by omega
        subst e
        refine jr_iload dX8_right_82 rfl ?_
        refine jr_bipush (60) dX8_right_84 (by decide) ?_
        refine jr_icmp_ge 174 dX8_right_86 (by decide) (fun c_86 => ?_) (fun c_86 => absurd (by decide) c_86)
        refine jr_iload_n dX8_right_174 rfl ?_
        refine jr_if_ne 183 dX8_right_175 (by decide) (fun c_175 => ?_) (fun c_175 => ?_)
        · simp only [lt_i, le_i, eq_i, Int32.reduceToInt] at c_175
          refine jr_iload dX8_right_183 rfl ?_
          refine jr_iret rfl dX8_right_185 ?_
          refine hQ _ _ ⟨?_, CN.y hN hS⟩
          first | rw [if_pos (by omega)] | rw [if_neg (by omega)]
        · simp only [lt_i, le_i, eq_i, Int32.reduceToInt] at c_175
          refine jr_iload dX8_right_178 rfl ?_
          refine jr_goto 185 dX8_right_180 (by decide) ?_
          refine jr_iret rfl dX8_right_185 ?_
          refine hQ _ _ ⟨?_, CN.y hN hS⟩
          first | rw [if_pos (by omega)] | rw [if_neg (by omega)]
      | succ f ih =>
        intro o w1 hf hS hT h2 hAl
        have hw1 := hS.wf hw
        have hN1 := hN.y NA1 hS
        have hCk := hN1.ck NA1 hw1 hC hk6
        have hcl := cntB_le (fitP s (T_in s k o)) 720
        obtain ⟨v, ev⟩ : ∃ v, v = cntB (fitP s (T_in s k o)) 720 := ⟨_, rfl⟩
        have evi : (nI v).toInt = (v : Int) := i_nI (by omega)
        have ertF : rtF s k (o + 1) = if 0 < (nI v).toInt ∧ ((rtF s k o).1.toInt < 0 ∨ (nI v).toInt < (rtF s k o).2.toInt) then (nI o, nI v) else rtF s k o := by rw [ev]; rfl
        have K126 : ∀ w2, Sm scY w w2 → AllR (wI w2 35) (T_out s k) → wI w2 34 2 = s 8 → AlR (wI w2 36) s → wI w2 34 3 = nI v → RR g RX8 cX8_right 7 (some .int) "right" 6 0 0 0 0 126 [some (.ref (gb g + 0)), some (.int (nI k)), some (.int x), some (.ref (gb g + (1 + 5 + k))), some (.int (rtC (rtF s k o)).1), some (.int (rtC (rtF s k o)).2), some (.int (nI o))] [] w2 Q := by
          intro w2 hS2 hT2 h22 hAl2 h3
          have hw1 := hS2.wf hw
          have h9 := ih (o + 1) w2 (by omega) hS2 hT2 h22 hAl2
          rw [ertF] at h9
          have eno : rtC (nI o, nI v) = (nI o, nI v) := if_neg (by show ¬ (nI o).toInt < 0; rw [i_nI (by omega)]; omega)
          rcases rtF_n s k o with e1 | ⟨q, m, q1, q2, e1⟩
          · rw [e1] at h9
            rw [e1]
            have en0 : rtC (-1, 0) = (-1000000005, -1000000005) := if_pos (by decide)
            rw [en0]
            by_cases hv : 0 < (nI v).toInt
            · rw [if_pos ⟨hv, Or.inl (by decide)⟩, eno] at h9
              refine jr_aload_n dX8_right_126 rfl ?_
              refine gfX8_29 34 dX8_right_127 (hw1.k rfl) (hw1.f rfl) ?_
              refine gfX8_185 dX8_right_130 (hw1.k rfl) ?_
              rw [h3]
              refine jr_if_le 168 dX8_right_133 (by decide) (fun c_133 => absurd c_133 (by rw [le_i]; show ¬ _ ≤ (0 : Int); omega)) (fun c_133 => ?_)
              refine jr_iload dX8_right_136 rfl ?_
              refine jr_ldc (-1000000005) ckX8_168 dX8_right_138 ?_
              refine jr_icmp_eq 155 dX8_right_140 (by decide) (fun c_140 => ?_) (fun c_140 => absurd rfl c_140)
              refine jr_iload dX8_right_155 rfl ?_
              refine jr_istore_4 dX8_right_157 (by decide) rfl ?_
              refine jr_aload_n dX8_right_159 rfl ?_
              refine gfX8_29 34 dX8_right_160 (hw1.k rfl) (hw1.f rfl) ?_
              refine gfX8_185 dX8_right_163 (hw1.k rfl) ?_
              rw [h3]
              refine jr_istore_5 dX8_right_166 (by decide) rfl ?_
              refine jr_iinc_6 (nI (o + 1)) dX8_right_168 (inc1 o) (by decide) rfl ?_
              refine jr_goto 82 dX8_right_171 (by decide) ?_
              exact h9
            · rw [if_neg (fun h => hv h.1), en0] at h9
              refine jr_aload_n dX8_right_126 rfl ?_
              refine gfX8_29 34 dX8_right_127 (hw1.k rfl) (hw1.f rfl) ?_
              refine gfX8_185 dX8_right_130 (hw1.k rfl) ?_
              rw [h3]
              refine jr_if_le 168 dX8_right_133 (by decide) (fun c_133 => ?_) (fun c_133 => absurd (by rw [le_i]; show _ ≤ (0 : Int); omega) c_133)
              refine jr_iinc_6 (nI (o + 1)) dX8_right_168 (inc1 o) (by decide) rfl ?_
              refine jr_goto 82 dX8_right_171 (by decide) ?_
              exact h9
          · rw [e1] at h9
            rw [e1]
            have eqi : (nI q).toInt = (q : Int) := i_nI (by omega)
            have emi : (nI m).toInt = (m : Int) := i_nI (by omega)
            have en0 : rtC (nI q, nI m) = (nI q, nI m) := if_neg (by show ¬ (nI q).toInt < 0; omega)
            rw [en0]
            have hne : ¬ nI q = -1000000005 := fun h => by
              have h0 := congrArg Int32.toInt h
              rw [eqi] at h0
              have e5 : (-1000000005 : Int32).toInt = -1000000005 := by decide
              rw [e5] at h0
              omega
            simp only at h9
            refine jr_aload_n dX8_right_126 rfl ?_
            refine gfX8_29 34 dX8_right_127 (hw1.k rfl) (hw1.f rfl) ?_
            refine gfX8_185 dX8_right_130 (hw1.k rfl) ?_
            rw [h3]
            refine jr_if_le 168 dX8_right_133 (by decide) (fun c_133 => ?_) (fun c_133 => ?_)
            · simp only [lt_i, le_i, eq_i, Int32.reduceToInt] at c_133
              refine jr_iinc_6 (nI (o + 1)) dX8_right_168 (inc1 o) (by decide) rfl ?_
              refine jr_goto 82 dX8_right_171 (by decide) ?_
              first | (rw [if_pos (by omega), eno] at h9; exact h9) | (rw [if_neg (by omega), en0] at h9; exact h9)
            · simp only [lt_i, le_i, eq_i, Int32.reduceToInt] at c_133
              refine jr_iload dX8_right_136 rfl ?_
              refine jr_ldc (-1000000005) ckX8_168 dX8_right_138 ?_
              refine jr_icmp_eq 155 dX8_right_140 (by decide) (fun c_140 => absurd c_140 hne) (fun c_140 => ?_)
              refine jr_aload_n dX8_right_143 rfl ?_
              refine gfX8_29 34 dX8_right_144 (hw1.k rfl) (hw1.f rfl) ?_
              refine gfX8_185 dX8_right_147 (hw1.k rfl) ?_
              rw [h3]
              refine jr_iload dX8_right_150 rfl ?_
              refine jr_icmp_ge 168 dX8_right_152 (by decide) (fun c_152 => ?_) (fun c_152 => ?_)
              · simp only [lt_i, le_i, eq_i, Int32.reduceToInt] at c_152
                refine jr_iinc_6 (nI (o + 1)) dX8_right_168 (inc1 o) (by decide) rfl ?_
                refine jr_goto 82 dX8_right_171 (by decide) ?_
                first | (rw [if_pos (by omega), eno] at h9; exact h9) | (rw [if_neg (by omega), en0] at h9; exact h9)
              · simp only [lt_i, le_i, eq_i, Int32.reduceToInt] at c_152
                refine jr_iload dX8_right_155 rfl ?_
                refine jr_istore_4 dX8_right_157 (by decide) rfl ?_
                refine jr_aload_n dX8_right_159 rfl ?_
                refine gfX8_29 34 dX8_right_160 (hw1.k rfl) (hw1.f rfl) ?_
                refine gfX8_185 dX8_right_163 (hw1.k rfl) ?_
                rw [h3]
                refine jr_istore_5 dX8_right_166 (by decide) rfl ?_
                refine jr_iinc_6 (nI (o + 1)) dX8_right_168 (inc1 o) (by decide) rfl ?_
                refine jr_goto 82 dX8_right_171 (by decide) ?_
                first | (rw [if_pos (by omega), eno] at h9; exact h9) | (rw [if_neg (by omega), en0] at h9; exact h9)
        have K111 : ∀ w2, Sm scY w w2 → AllR (wI w2 35) (T_in s k o) → wI w2 34 2 = s 8 → AlR (wI w2 36) s → wI w2 34 3 = nI v → RR g RX8 cX8_right 7 (some .int) "right" 6 0 0 0 0 111 [some (.ref (gb g + 0)), some (.int (nI k)), some (.int x), some (.ref (gb g + (1 + 5 + k))), some (.int (rtC (rtF s k o)).1), some (.int (rtC (rtF s k o)).2), some (.int (nI o))] [] w2 Q := by
          intro w2 hS2 hT2 h22 hAl2 h3
          have hw1 := hS2.wf hw
          have hN2 := hN.y NA1 hS2
          have hCk2 := hN2.ck NA1 hw1 hC hk6
          refine jr_aload_n dX8_right_111 rfl ?_
          refine gfX8_29 34 dX8_right_112 (hw1.k rfl) (hw1.f rfl) ?_
          refine jr_aload_n dX8_right_115 rfl ?_
          refine gfX8_12 1 dX8_right_116 (hw1.k rfl) (hw1.f rfl) ?_
          refine jr_aload_n dX8_right_119 rfl ?_
          refine jr_iload dX8_right_120 rfl ?_
          refine jr_iconst (-1) dX8_right_122 (by decide) ?_
          refine jc_Vv (c_addStrokes g _ hw1 1 NA1 s hG hN2 _ _ _ _ hCk2 (by omega) o (by omega) (-1)) lkX8_198 (hw1.k rfl) rfl rfl (Nat.le_of_ble_eq_true rfl) (Nat.le_of_ble_eq_true rfl) dX8_right_123 (fun w_123 h_123 => ?_)
          obtain ⟨hT3, hS3⟩ := h_123
          refine K126 _ (hS2.tr (yq hS3)) (fun t ht => ?_) (by rw [hS3.row (scQ_n (by decide) (by decide))]; exact h22) (by rw [hS3.row (scQ_n (by decide) (by decide))]; exact hAl2) (by rw [hS3.row (scQ_n (by decide) (by decide))]; exact h3)
          rw [hT3 t ht, hT2 t ht, neg1_n (by unfold T_in; omega)]
          refine congrArg nI ?_
          unfold T_in
          omega
        have K104 : ∀ w2, Sm scY w w2 → AllR (wI w2 35) (T_in s k o) → wI w2 34 2 = s 8 → AlR (wI w2 36) s → RR g RX8 cX8_right 7 (some .int) "right" 6 0 0 0 0 104 [some (.ref (gb g + 0)), some (.int (nI k)), some (.int x), some (.ref (gb g + (1 + 5 + k))), some (.int (rtC (rtF s k o)).1), some (.int (rtC (rtF s k o)).2), some (.int (nI o))] [] w2 Q := by
          intro w2 hS2 hT2 h22 hAl2
          have hw1 := hS2.wf hw
          refine jr_aload_n dX8_right_104 rfl ?_
          refine gfX8_29 34 dX8_right_105 (hw1.k rfl) (hw1.f rfl) ?_
          refine jc_Vv (c_findTimes g _ hw1 s h8 (T_in s k o) hT2 (hTi96 o) h22 hAl2) lkX8_182 (hw1.k rfl) rfl rfl (Nat.le_of_ble_eq_true rfl) (Nat.le_of_ble_eq_true rfl) dX8_right_108 (fun w_108 h_108 => ?_)
          obtain ⟨hF, h23, hS3⟩ := h_108
          exact K111 _ (hS2.tr (y34 hS3)) (by rw [hS3.row (by decide)]; exact hT2) h23 (by rw [hS3.row (by decide)]; exact hAl2) (by rw [hF.1, ev])
        refine jr_iload dX8_right_82 rfl ?_
        refine jr_bipush (60) dX8_right_84 (by decide) ?_
        refine jr_icmp_ge 174 dX8_right_86 (by decide) (fun c_86 => absurd c_86 (by rw [jlit 60]; exact nI_ge (by omega) (by decide))) (fun c_86 => ?_)
        refine jr_aload_n dX8_right_89 rfl ?_
        refine gfX8_29 34 dX8_right_90 (hw1.k rfl) (hw1.f rfl) ?_
        refine jr_aload_n dX8_right_93 rfl ?_
        refine gfX8_12 1 dX8_right_94 (hw1.k rfl) (hw1.f rfl) ?_
        refine jr_aload_n dX8_right_97 rfl ?_
        refine jr_iload dX8_right_98 rfl ?_
        refine jr_iconst (1) dX8_right_100 (by decide) ?_
        refine jc_Vv (c_addStrokes g _ hw1 1 NA1 s hG hN1 _ _ _ _ hCk (by omega) o (by omega) 1) lkX8_198 (hw1.k rfl) rfl rfl (Nat.le_of_ble_eq_true rfl) (Nat.le_of_ble_eq_true rfl) dX8_right_101 (fun w_101 h_101 => ?_)
        obtain ⟨hT3, hS3⟩ := h_101
        refine K104 _ (hS.tr (yq hS3)) (fun t ht => ?_) (by rw [hS3.row (scQ_n (by decide) (by decide))]; exact h2) (by rw [hS3.row (scQ_n (by decide) (by decide))]; exact hAl)
        rw [hT3 t ht, hT t ht, Int32.one_mul, nI_add]
        rfl
    have K54 : ∀ w1, Sm scY w w1 → AllR (wI w1 35) (totT s) → wI w1 34 2 = s 8 → AlR (wI w1 36) s → RR g RX8 cX8_right 7 (some .int) "right" 6 0 0 0 0 54 [some (.ref (gb g + 0)), some (.int (nI k)), some (.int x), some (.ref (gb g + (1 + 5 + k))), none, none, none] [] w1 Q := by
      intro w1 hS hT h2 hAl
      have hw1 := hS.wf hw
      have hN1 := hN.y NA1 hS
      have hCk := hN1.ck NA1 hw1 hC hk6
      refine jr_aload_n dX8_right_54 rfl ?_
      refine gfX8_29 34 dX8_right_55 (hw1.k rfl) (hw1.f rfl) ?_
      refine jr_aload_n dX8_right_58 rfl ?_
      refine gfX8_12 1 dX8_right_59 (hw1.k rfl) (hw1.f rfl) ?_
      refine jr_aload_n dX8_right_62 rfl ?_
      refine jr_aload_n dX8_right_63 rfl ?_
      refine gfX8_102 dX8_right_64 (NA1.k hw1 hk6) ?_
      rw [hCk.2.2.1]
      refine jr_iconst (-1) dX8_right_67 (by decide) ?_
      refine jc_Vv (c_addStrokes g _ hw1 1 NA1 s hG hN1 _ _ _ _ hCk (by omega) _ hCk.2.2.2.2.2.1 (-1)) lkX8_198 (hw1.k rfl) rfl rfl (Nat.le_of_ble_eq_true rfl) (Nat.le_of_ble_eq_true rfl) dX8_right_68 (fun w_68 h_68 => ?_)
      obtain ⟨hT3, hS3⟩ := h_68
      refine jr_ldc (-1000000005) ckX8_168 dX8_right_71 ?_
      refine jr_istore_4 dX8_right_73 (by decide) rfl ?_
      refine jr_ldc (-1000000005) ckX8_168 dX8_right_75 ?_
      refine jr_istore_5 dX8_right_77 (by decide) rfl ?_
      refine jr_iconst (0) dX8_right_79 (by decide) ?_
      refine jr_istore_6 dX8_right_80 (by decide) rfl ?_
      refine L 60 0 _ rfl (hS.tr (yq hS3)) (fun t ht => ?_) (by rw [hS3.row (scQ_n (by decide) (by decide))]; exact h2) (by rw [hS3.row (scQ_n (by decide) (by decide))]; exact hAl)
      rw [hT3 t ht, hT t ht]
      exact neg1_n (hst t)
    have K43 : ∀ w1, Sm scY w w1 → AllR (wI w1 35) (totT s) → RR g RX8 cX8_right 7 (some .int) "right" 6 0 0 0 0 43 [some (.ref (gb g + 0)), some (.int (nI k)), some (.int x), some (.ref (gb g + (1 + 5 + k))), none, none, none] [] w1 Q := by
      intro w1 hS hT
      have hw1 := hS.wf hw
      refine jr_aload_n dX8_right_43 rfl ?_
      refine gfX8_29 34 dX8_right_44 (hw1.k rfl) (hw1.f rfl) ?_
      refine jr_aload_n dX8_right_47 rfl ?_
      refine gfX8_12 1 dX8_right_48 (hw1.k rfl) (hw1.f rfl) ?_
      refine jc_Vv (c_useNotes g _ hw1 1 NA1 s hG (hN.y NA1 hS)) lkX8_179 (hw1.k rfl) rfl rfl (Nat.le_of_ble_eq_true rfl) (Nat.le_of_ble_eq_true rfl) dX8_right_51 (fun w_51 h_51 => ?_)
      obtain ⟨h2, hAl, hS2⟩ := h_51
      exact K54 _ (hS.tr (yu hS2)) (by rw [hS2.row (by unfold scU; omega)]; exact hT) h2 hAl
    refine jr_aload_n dX8_right_0 rfl ?_
    refine gfX8_12 1 dX8_right_1 (hw.k rfl) (hw.f rfl) ?_
    refine jr_iload_n dX8_right_4 rfl ?_
    refine jc_Vi (c_hasClock g _ hw 1 NA1 s hN h0 _) lkX8_89 (hw.k rfl) rfl rfl (Nat.le_of_ble_eq_true rfl) (Nat.le_of_ble_eq_true rfl) dX8_right_5 (fun r_5 w_5 h_5 => ?_)
    obtain ⟨rfl, rfl⟩ := h_5
    refine jr_if_eq 19 dX8_right_8 (by decide) (fun c_8 => absurd c_8 (jb_1.mpr hc.1)) (fun c_8 => ?_)
    refine jr_iload_n dX8_right_11 rfl ?_
    refine jr_iconst (2) dX8_right_12 (by decide) ?_
    refine jc_Si (c_wi g _ _ _ 2 rfl) lkX8_76 rfl rfl (Nat.le_of_ble_eq_true rfl) (Nat.le_of_ble_eq_true rfl) dX8_right_13 (fun r_13 w_13 h_13 => ?_)
    obtain ⟨rfl, rfl⟩ := h_13
    refine jr_if_ne 22 dX8_right_16 (by decide) (fun c_16 => ?_) (fun c_16 => absurd c_16 (jb_1.mpr hxr))
    refine jr_aload_n dX8_right_22 rfl ?_
    refine gfX8_12 1 dX8_right_23 (hw.k rfl) (hw.f rfl) ?_
    refine gfX8_93 2 dX8_right_26 (hw.k rfl) (hw.f rfl) ?_
    refine jr_iload_n dX8_right_29 rfl ?_
    refine jr_aald k (hw.k rfl) (by decide) rfl ⟨hk6, by decide⟩ (by rw [rk1 hw hk6, jrf_s]) dX8_right_30 ?_
    refine jr_astore_3 dX8_right_31 (by decide) rfl ?_
    refine jr_aload_n dX8_right_32 rfl ?_
    refine gfX8_29 34 dX8_right_33 (hw.k rfl) (hw.f rfl) ?_
    refine jr_aload_n dX8_right_36 rfl ?_
    refine gfX8_12 1 dX8_right_37 (hw.k rfl) (hw.f rfl) ?_
    refine jc_Vv (c_useClocks g _ hw 1 NA1 s hG hN) lkX8_175 (hw.k rfl) rfl rfl (Nat.le_of_ble_eq_true rfl) (Nat.le_of_ble_eq_true rfl) dX8_right_40 (fun w_40 h_40 => ?_)
    obtain ⟨hT, hS1⟩ := h_40
    exact K43 _ (yq hS1) hT
  · refine jr_aload_n dX8_right_0 rfl ?_
    refine gfX8_12 1 dX8_right_1 (hw.k rfl) (hw.f rfl) ?_
    refine jr_iload_n dX8_right_4 rfl ?_
    refine jc_Vi (c_hasClock g _ hw 1 NA1 s hN h0 _) lkX8_89 (hw.k rfl) rfl rfl (Nat.le_of_ble_eq_true rfl) (Nat.le_of_ble_eq_true rfl) dX8_right_5 (fun r_5 w_5 h_5 => ?_)
    obtain ⟨rfl, rfl⟩ := h_5
    refine jr_if_eq 19 dX8_right_8 (by decide) (fun c_8 => ?_) (fun c_8 => ?_)
    · rw [jb_0] at c_8
      refine jr_ldc (-1000000001) ckX8_80 dX8_right_19 ?_
      refine jr_iret rfl dX8_right_21 ?_
      exact hQ _ _ ⟨by rw [F_right, if_neg hc], CN.rf hN⟩
    · rw [jb_1] at c_8
      refine jr_iload_n dX8_right_11 rfl ?_
      refine jr_iconst (2) dX8_right_12 (by decide) ?_
      refine jc_Si (c_wi g _ _ _ 2 rfl) lkX8_76 rfl rfl (Nat.le_of_ble_eq_true rfl) (Nat.le_of_ble_eq_true rfl) dX8_right_13 (fun r_13 w_13 h_13 => ?_)
      obtain ⟨rfl, rfl⟩ := h_13
      refine jr_if_ne 22 dX8_right_16 (by decide) (fun c_16 => ?_) (fun c_16 => ?_)
      · rw [jb_1] at c_16
        exfalso; exact hc ⟨c_8, by unfold inR; omega⟩
      · rw [jb_0] at c_16
        refine jr_ldc (-1000000001) ckX8_80 dX8_right_19 ?_
        refine jr_iret rfl dX8_right_21 ?_
        exact hQ _ _ ⟨by rw [F_right, if_neg hc], CN.rf hN⟩
theorem p_fee (g : Cx) (w : Wd) (hw : Wf w) (s : Nat → Int32) (hG : Gd s) (hN : NR w 1 s) : CI g yX8_fee cX8_fee 2 (some .int) 3 0 0 [.ref (gb g + 0)] w (fun r w' => r = F_fee s ∧ CN w w' s) := by
  obtain ⟨-, hT, -, -, -, -, -, -, hX⟩ := id hG
  have hn : sN s 1 ≤ 14 := hT.2
  refine CI.of (own := RX8) (nm := "fee") (lv := [some (.ref (gb g + 0)), none]) (by decide) rfl rfl (Nat.le_of_ble_eq_true rfl) rfl (fun Q hQ => ?_)
  rcases cnt_rng s (nI 1) (sN s 1) (by omega) with e | ⟨t, ht, e, hkey⟩
  · refine jr_aload_n dX8_fee_0 rfl ?_
    refine gfX8_12 1 dX8_fee_1 (hw.k rfl) (hw.f rfl) ?_
    refine jr_iconst (1) dX8_fee_4 (by decide) ?_
    refine jc_Vr (c_law g _ hw 1 NA1 s hN hT 1 (by decide)) lkX8_220 (hw.k rfl) rfl rfl (Nat.le_of_ble_eq_true rfl) (Nat.le_of_ble_eq_true rfl) dX8_fee_5 (fun r_5 w_5 h_5 => ?_)
    obtain ⟨rfl, rfl⟩ := h_5
    rw [law_none e, jrf_n]
    refine jr_astoreN_1 dX8_fee_8 (by decide) rfl ?_
    refine jr_aloadN_n dX8_fee_9 rfl ?_
    refine jr_ifnonnullN dX8_fee_10 ?_
    refine jr_aload_n dX8_fee_13 rfl ?_
    refine gfX8_12 1 dX8_fee_14 (hw.k rfl) (hw.f rfl) ?_
    refine gfX8_149 dX8_fee_17 (hw.k rfl) ?_
    refine jr_goto 42 dX8_fee_20 (by decide) ?_
    refine jr_iret rfl dX8_fee_42 ?_
    exact hQ _ _ ⟨by rw [F_fee, show (1 : Int32) = nI 1 from rfl, e, if_pos (by decide)]; exact hN.1.2.2.2.1, CN.rf hN⟩
  · obtain ⟨b, hb1, hb2⟩ := hN.2.2.2.2 t ht
    have hTx := hX t ht
    have h0 : sN s (40 + 200 * t) = 1 := sN_of hkey (by decide)
    refine jr_aload_n dX8_fee_0 rfl ?_
    refine gfX8_12 1 dX8_fee_1 (hw.k rfl) (hw.f rfl) ?_
    refine jr_iconst (1) dX8_fee_4 (by decide) ?_
    refine jc_Vr (c_law g _ hw 1 NA1 s hN hT 1 (by decide)) lkX8_220 (hw.k rfl) rfl rfl (Nat.le_of_ble_eq_true rfl) (Nat.le_of_ble_eq_true rfl) dX8_fee_5 (fun r_5 w_5 h_5 => ?_)
    obtain ⟨rfl, rfl⟩ := h_5
    rw [law_some hn ht e, show (1 + 3 : Nat) = 4 from rfl, show wF w 4 t = some b from hb1, jrf_s]
    refine jr_astore_1 dX8_fee_8 (by decide) rfl ?_
    refine jr_aload_n dX8_fee_9 rfl ?_
    refine jr_ifnonnull 23 dX8_fee_10 (by decide) ?_
    refine jr_aload_n dX8_fee_23 rfl ?_
    refine jr_aload_n dX8_fee_24 rfl ?_
    refine gfX8_12 1 dX8_fee_25 (hw.k rfl) (hw.f rfl) ?_
    refine gfX8_149 dX8_fee_28 (hw.k rfl) ?_
    rw [hN.1.2.2.2.1]
    refine jr_aload_n dX8_fee_31 rfl ?_
    refine gfX8_12 1 dX8_fee_32 (hw.k rfl) (hw.f rfl) ?_
    refine gfX8_224 dX8_fee_35 (hw.k rfl) ?_
    rw [hN.1.2.2.2.2.1]
    refine jr_iconst (0) dX8_fee_38 (by decide) ?_
    refine jc_Vi (c_value g _ s t b hTx hb2 _ _ _) lkX8_227 hb2.2.1 rfl rfl (Nat.le_of_ble_eq_true rfl) (Nat.le_of_ble_eq_true rfl) dX8_fee_39 (fun r_39 w_39 h_39 => ?_)
    obtain ⟨rfl, hS⟩ := h_39
    refine jr_iret rfl dX8_fee_42 ?_
    refine hQ _ _ ⟨?_, CN.k hN (hS.mono (fun i hi => by subst hi; exact ⟨by have := hb2.1.1; omega, by have := hb2.1.2; omega⟩))⟩
    rw [F_fee, show (1 : Int32) = nI 1 from rfl, e, if_neg (by have := i_nI (n := t) (by omega); omega), nI_clamp (by omega)]
    exact ev_congr hTx (fun v hv => by rw [h0] at hv; exact nmV_F _ _ _ _ hv)
theorem p_fine (g : Cx) (w : Wd) (hw : Wf w) (s : Nat → Int32) (hG : Gd s) (hN : NR w 1 s) (c : Int32) : CI g yX8_fine cX8_fine 4 (some .int) 3 0 0 [.ref (gb g + 0), .int c] w (fun r w' => r = F_fine s c ∧ CN w w' s) := by
  obtain ⟨h0, hT, -, -, -, -, -, -, hX⟩ := id hG
  have h6 := h0.2
  have hn : sN s 1 ≤ 14 := hT.2
  refine CI.of (own := RX8) (nm := "fine") (lv := [some (.ref (gb g + 0)), some (.int c), none, none]) (by decide) rfl rfl (Nat.le_of_ble_eq_true rfl) rfl (fun Q hQ => ?_)
  by_cases hc : isC s c
  · obtain ⟨k, hk, ek⟩ := i_of (n := sN s 0) (x := c) hc.1 hc.2
    subst ek
    have hk6 : k < 6 := by omega
    have ekc : (nI k).toNatClampNeg = k := nI_clamp (by omega)
    obtain ⟨q0, q1, q2⟩ := hN.2.2.1 k hk6
    rcases cnt_rng s (nI 2) (sN s 1) (by omega) with e | ⟨t, ht, e, hkey⟩
    · refine jr_aload_n dX8_fine_0 rfl ?_
      refine gfX8_12 1 dX8_fine_1 (hw.k rfl) (hw.f rfl) ?_
      refine jr_iload_n dX8_fine_4 rfl ?_
      refine jc_Vi (c_hasClock g _ hw 1 NA1 s hN h0 _) lkX8_89 (hw.k rfl) rfl rfl (Nat.le_of_ble_eq_true rfl) (Nat.le_of_ble_eq_true rfl) dX8_fine_5 (fun r_5 w_5 h_5 => ?_)
      obtain ⟨rfl, rfl⟩ := h_5
      refine jr_if_ne 14 dX8_fine_8 (by decide) (fun c_8 => ?_) (fun c_8 => absurd c_8 (jb_1.mpr hc))
      refine jr_aload_n dX8_fine_14 rfl ?_
      refine gfX8_12 1 dX8_fine_15 (hw.k rfl) (hw.f rfl) ?_
      refine gfX8_93 2 dX8_fine_18 (hw.k rfl) (hw.f rfl) ?_
      refine jr_iload_n dX8_fine_21 rfl ?_
      refine jr_aald k (hw.k rfl) (by decide) rfl ⟨hk6, by decide⟩ (by rw [rk1 hw hk6, jrf_s]) dX8_fine_22 ?_
      refine jr_astore_2 dX8_fine_23 (by decide) rfl ?_
      refine jr_aload_n dX8_fine_24 rfl ?_
      refine gfX8_12 1 dX8_fine_25 (hw.k rfl) (hw.f rfl) ?_
      refine jr_iconst (2) dX8_fine_28 (by decide) ?_
      refine jc_Vr (c_law g _ hw 1 NA1 s hN hT 2 (by decide)) lkX8_220 (hw.k rfl) rfl rfl (Nat.le_of_ble_eq_true rfl) (Nat.le_of_ble_eq_true rfl) dX8_fine_29 (fun r_29 w_29 h_29 => ?_)
      obtain ⟨rfl, rfl⟩ := h_29
      rw [law_none e, jrf_n]
      refine jr_astoreN_3 dX8_fine_32 (by decide) rfl ?_
      refine jr_aloadN_n dX8_fine_33 rfl ?_
      refine jr_ifnonnullN dX8_fine_34 ?_
      refine jr_aload_n dX8_fine_37 rfl ?_
      refine gfX8_102 dX8_fine_38 (NA1.k hw hk6) ?_
      refine jr_goto 57 dX8_fine_41 (by decide) ?_
      refine jr_iret rfl dX8_fine_57 ?_
      exact hQ _ _ ⟨by rw [F_fine, if_pos hc, show (2 : Int32) = nI 2 from rfl, e, if_pos (by decide), ekc]; exact q1, CN.rf hN⟩
    · obtain ⟨b, hb1, hb2⟩ := hN.2.2.2.2 t ht
      have hTx := hX t ht
      have h0 : sN s (40 + 200 * t) = 2 := sN_of hkey (by decide)
      refine jr_aload_n dX8_fine_0 rfl ?_
      refine gfX8_12 1 dX8_fine_1 (hw.k rfl) (hw.f rfl) ?_
      refine jr_iload_n dX8_fine_4 rfl ?_
      refine jc_Vi (c_hasClock g _ hw 1 NA1 s hN hG.1 _) lkX8_89 (hw.k rfl) rfl rfl (Nat.le_of_ble_eq_true rfl) (Nat.le_of_ble_eq_true rfl) dX8_fine_5 (fun r_5 w_5 h_5 => ?_)
      obtain ⟨rfl, rfl⟩ := h_5
      refine jr_if_ne 14 dX8_fine_8 (by decide) (fun c_8 => ?_) (fun c_8 => absurd c_8 (jb_1.mpr hc))
      refine jr_aload_n dX8_fine_14 rfl ?_
      refine gfX8_12 1 dX8_fine_15 (hw.k rfl) (hw.f rfl) ?_
      refine gfX8_93 2 dX8_fine_18 (hw.k rfl) (hw.f rfl) ?_
      refine jr_iload_n dX8_fine_21 rfl ?_
      refine jr_aald k (hw.k rfl) (by decide) rfl ⟨hk6, by decide⟩ (by rw [rk1 hw hk6, jrf_s]) dX8_fine_22 ?_
      refine jr_astore_2 dX8_fine_23 (by decide) rfl ?_
      refine jr_aload_n dX8_fine_24 rfl ?_
      refine gfX8_12 1 dX8_fine_25 (hw.k rfl) (hw.f rfl) ?_
      refine jr_iconst (2) dX8_fine_28 (by decide) ?_
      refine jc_Vr (c_law g _ hw 1 NA1 s hN hT 2 (by decide)) lkX8_220 (hw.k rfl) rfl rfl (Nat.le_of_ble_eq_true rfl) (Nat.le_of_ble_eq_true rfl) dX8_fine_29 (fun r_29 w_29 h_29 => ?_)
      obtain ⟨rfl, rfl⟩ := h_29
      rw [law_some hn ht e, show (1 + 3 : Nat) = 4 from rfl, show wF w 4 t = some b from hb1, jrf_s]
      refine jr_astore_3 dX8_fine_32 (by decide) rfl ?_
      refine jr_aload_n dX8_fine_33 rfl ?_
      refine jr_ifnonnull 44 dX8_fine_34 (by decide) ?_
      refine jr_aload_n dX8_fine_44 rfl ?_
      refine jr_aload_n dX8_fine_45 rfl ?_
      refine gfX8_102 dX8_fine_46 (NA1.k hw hk6) ?_
      rw [q1]
      refine jr_aload_n dX8_fine_49 rfl ?_
      refine gfX8_105 dX8_fine_50 (NA1.k hw hk6) ?_
      rw [q2]
      refine jr_iconst (0) dX8_fine_53 (by decide) ?_
      refine jc_Vi (c_value g _ s t b hTx hb2 _ _ _) lkX8_227 hb2.2.1 rfl rfl (Nat.le_of_ble_eq_true rfl) (Nat.le_of_ble_eq_true rfl) dX8_fine_54 (fun r_54 w_54 h_54 => ?_)
      obtain ⟨rfl, hS⟩ := h_54
      refine jr_iret rfl dX8_fine_57 ?_
      refine hQ _ _ ⟨?_, CN.k hN (hS.mono (fun i hi => by subst hi; exact ⟨by have := hb2.1.1; omega, by have := hb2.1.2; omega⟩))⟩
      rw [F_fine, if_pos hc, show (2 : Int32) = nI 2 from rfl, e, if_neg (by have := i_nI (n := t) (by omega); omega), nI_clamp (show t < 2 ^ 31 by omega), ekc]
      exact ev_congr hTx (fun v hv => by rw [h0] at hv; exact nmV_I _ _ _ _ hv)
  · refine jr_aload_n dX8_fine_0 rfl ?_
    refine gfX8_12 1 dX8_fine_1 (hw.k rfl) (hw.f rfl) ?_
    refine jr_iload_n dX8_fine_4 rfl ?_
    refine jc_Vi (c_hasClock g _ hw 1 NA1 s hN h0 _) lkX8_89 (hw.k rfl) rfl rfl (Nat.le_of_ble_eq_true rfl) (Nat.le_of_ble_eq_true rfl) dX8_fine_5 (fun r_5 w_5 h_5 => ?_)
    obtain ⟨rfl, rfl⟩ := h_5
    refine jr_if_ne 14 dX8_fine_8 (by decide) (fun c_8 => absurd (jb_f hc) c_8) (fun c_8 => ?_)
    refine jr_ldc (-1000000001) ckX8_80 dX8_fine_11 ?_
    refine jr_iret rfl dX8_fine_13 ?_
    exact hQ _ _ ⟨by rw [F_fine, if_neg hc], CN.rf hN⟩
theorem p_why (g : Cx) (w : Wd) (hw : Wf w) (s : Nat → Int32) (hG : Gd s) (hN : NR w 1 s) (x : Int32) : CI g yX8_why cX8_why 2 (some .int) 2 0 0 [.ref (gb g + 0), .int x] w (fun r w' => r = F_why s x ∧ CN w w' s) := by
  refine CI.of (own := RX8) (nm := "why") (lv := [some (.ref (gb g + 0)), some (.int x)]) (by decide) rfl rfl (Nat.le_of_ble_eq_true rfl) rfl (fun Q hQ => ?_)
  by_cases hc : inR x 0 2
  · have hxr : 0 ≤ x.toInt ∧ x.toInt < 3 := by have := hc; unfold inR at this; omega
    obtain ⟨q, hq, eq⟩ := i_of (n := 3) (x := x) hxr.1 hxr.2
    subst eq
    refine jr_iload_n dX8_why_0 rfl ?_
    refine jr_iconst (3) dX8_why_1 (by decide) ?_
    refine jc_Si (c_wi g _ _ _ 3 rfl) lkX8_76 rfl rfl (Nat.le_of_ble_eq_true rfl) (Nat.le_of_ble_eq_true rfl) dX8_why_2 (fun r_2 w_2 h_2 => ?_)
    obtain ⟨rfl, rfl⟩ := h_2
    refine jr_if_eq 20 dX8_why_5 (by decide) (fun c_5 => absurd c_5 (jb_1.mpr hxr)) (fun c_5 => ?_)
    refine jr_aload_n dX8_why_8 rfl ?_
    refine gfX8_12 1 dX8_why_9 (hw.k rfl) (hw.f rfl) ?_
    refine gfX8_263 5 dX8_why_12 (hw.k rfl) (hw.f rfl) ?_
    refine jr_iload_n dX8_why_15 rfl ?_
    refine jr_iald q (hw.k rfl) rfl ⟨hq, by decide⟩ dX8_why_16 ?_
    refine jr_goto 22 dX8_why_17 (by decide) ?_
    refine jr_iret rfl dX8_why_22 ?_
    exact hQ _ _ ⟨by rw [F_why, if_pos hc]; exact hN.2.2.2.1 q hq, CN.rf hN⟩
  · refine jr_iload_n dX8_why_0 rfl ?_
    refine jr_iconst (3) dX8_why_1 (by decide) ?_
    refine jc_Si (c_wi g _ _ _ 3 rfl) lkX8_76 rfl rfl (Nat.le_of_ble_eq_true rfl) (Nat.le_of_ble_eq_true rfl) dX8_why_2 (fun r_2 w_2 h_2 => ?_)
    obtain ⟨rfl, rfl⟩ := h_2
    refine jr_if_eq 20 dX8_why_5 (by decide) (fun c_5 => ?_) (fun c_5 => ?_)
    · rw [jb_0] at c_5
      refine jr_ldc (-1000000001) ckX8_80 dX8_why_20 ?_
      refine jr_iret rfl dX8_why_22 ?_
      exact hQ _ _ ⟨by rw [F_why, if_neg hc], CN.rf hN⟩
    · rw [jb_1] at c_5
      exfalso; exact hc (by unfold inR; omega)
theorem p_textTold (g : Cx) (w : Wd) (hw : Wf w) (s : Nat → Int32) (hG : Gd s) (hN : NR w 1 s) (t x : Int32) : CI g yX8_textTold cX8_textTold 4 (some .int) 2 0 0 [.ref (gb g + 0), .int t, .int x] w (fun r w' => r = F_textTold s t x ∧ CN w w' s) := by
  obtain ⟨h0, hT, -, -, -, -, -, -, hX⟩ := id hG
  have hn : sN s 1 ≤ 14 := hT.2
  refine CI.of (own := RX8) (nm := "textTold") (lv := [some (.ref (gb g + 0)), some (.int t), some (.int x), none]) (by decide) rfl rfl (Nat.le_of_ble_eq_true rfl) rfl (fun Q hQ => ?_)
  by_cases ht : 0 ≤ t.toInt ∧ t.toInt < sN s 1
  · obtain ⟨q, hq, eq⟩ := i_of (n := sN s 1) (x := t) ht.1 ht.2
    obtain ⟨b, hb1, hb2⟩ := hN.2.2.2.2 q hq
    have e2 : txO w 1 s t = some b := by rw [txO, if_pos ht, eq, nI_clamp (by omega)]; exact hb1
    have etc : t.toNatClampNeg = q := by rw [eq, nI_clamp (by omega)]
    have e6 : wI w b 0 = s (40 + 200 * q) := hb2.2.2.2.2.2.2.1
    have e7 : wI w b 1 = s (40 + 200 * q + 1) := hb2.2.2.2.2.2.2.2.1
    refine jr_aload_n dX8_textTold_0 rfl ?_
    refine gfX8_12 1 dX8_textTold_1 (hw.k rfl) (hw.f rfl) ?_
    refine jr_iload_n dX8_textTold_4 rfl ?_
    refine jc_Vr (c_textAt g _ hw 1 NA1 s hN hT _) lkX8_254 (hw.k rfl) rfl rfl (Nat.le_of_ble_eq_true rfl) (Nat.le_of_ble_eq_true rfl) dX8_textTold_5 (fun r_5 w_5 h_5 => ?_)
    obtain ⟨rfl, rfl⟩ := h_5
    rw [e2, jrf_s]
    refine jr_astore_3 dX8_textTold_8 (by decide) rfl ?_
    refine jr_aload_n dX8_textTold_9 rfl ?_
    refine jr_ifnull dX8_textTold_10 ?_
    refine jr_iload_n dX8_textTold_13 rfl ?_
    refine jr_iconst (2) dX8_textTold_14 (by decide) ?_
    refine jc_Si (c_wi g _ _ _ 2 rfl) lkX8_76 rfl rfl (Nat.le_of_ble_eq_true rfl) (Nat.le_of_ble_eq_true rfl) dX8_textTold_15 (fun r_15 w_15 h_15 => ?_)
    obtain ⟨rfl, rfl⟩ := h_15
    refine jr_if_ne 24 dX8_textTold_18 (by decide) (fun c_18 => ?_) (fun c_18 => ?_)
    · rw [jb_1] at c_18
      refine jr_iload_n dX8_textTold_24 rfl ?_
      refine jr_if_ne 35 dX8_textTold_25 (by decide) (fun c_25 => ?_) (fun c_25 => ?_)
      · simp only [lt_i, le_i, eq_i, Int32.reduceToInt] at c_25
        refine jr_aload_n dX8_textTold_35 rfl ?_
        refine gfX8_260 dX8_textTold_36 hb2.2.1 ?_
        refine jr_iret rfl dX8_textTold_39 ?_
        refine hQ _ _ ⟨?_, CN.rf hN⟩
        rw [F_textTold, if_pos ⟨ht, by unfold inR; omega⟩, etc]
        first | (rw [show x.toNatClampNeg = 0 by have : x.toNatClampNeg = x.toInt.toNat := rfl; omega]; exact e6) | (rw [show x.toNatClampNeg = 1 by have : x.toNatClampNeg = x.toInt.toNat := rfl; omega]; exact e7)
      · simp only [lt_i, le_i, eq_i, Int32.reduceToInt] at c_25
        refine jr_aload_n dX8_textTold_28 rfl ?_
        refine gfX8_257 dX8_textTold_29 hb2.2.1 ?_
        refine jr_goto 39 dX8_textTold_32 (by decide) ?_
        refine jr_iret rfl dX8_textTold_39 ?_
        refine hQ _ _ ⟨?_, CN.rf hN⟩
        rw [F_textTold, if_pos ⟨ht, by unfold inR; omega⟩, etc]
        first | (rw [show x.toNatClampNeg = 0 by have : x.toNatClampNeg = x.toInt.toNat := rfl; omega]; exact e6) | (rw [show x.toNatClampNeg = 1 by have : x.toNatClampNeg = x.toInt.toNat := rfl; omega]; exact e7)
    · rw [jb_0] at c_18
      refine jr_ldc (-1000000001) ckX8_80 dX8_textTold_21 ?_
      refine jr_iret rfl dX8_textTold_23 ?_
      exact hQ _ _ ⟨by rw [F_textTold, if_neg (fun h => by have := h.2; unfold inR at this; omega)], CN.rf hN⟩
  · have e2 : txO w 1 s t = none := by rw [txO, if_neg ht]
    refine jr_aload_n dX8_textTold_0 rfl ?_
    refine gfX8_12 1 dX8_textTold_1 (hw.k rfl) (hw.f rfl) ?_
    refine jr_iload_n dX8_textTold_4 rfl ?_
    refine jc_Vr (c_textAt g _ hw 1 NA1 s hN hT _) lkX8_254 (hw.k rfl) rfl rfl (Nat.le_of_ble_eq_true rfl) (Nat.le_of_ble_eq_true rfl) dX8_textTold_5 (fun r_5 w_5 h_5 => ?_)
    obtain ⟨rfl, rfl⟩ := h_5
    rw [e2, jrf_n]
    refine jr_astoreN_3 dX8_textTold_8 (by decide) rfl ?_
    refine jr_aloadN_n dX8_textTold_9 rfl ?_
    refine jr_ifnullN 21 dX8_textTold_10 (by decide) ?_
    refine jr_ldc (-1000000001) ckX8_80 dX8_textTold_21 ?_
    refine jr_iret rfl dX8_textTold_23 ?_
    exact hQ _ _ ⟨by rw [F_textTold, if_neg (fun h => ht h.1)], CN.rf hN⟩
theorem p_count (g : Cx) (w : Wd) (hw : Wf w) (s : Nat → Int32) (hN : NR w 1 s) (f : Nat → Int32) (h10 : wI w 0 10 = f 30) (h8 : wI w 0 8 = f 15) (x : Int32) : CI g yX8_count cX8_count 2 (some .int) 1 0 0 [.ref (gb g + 0), .int x] w (fun r w' => r = F_count s f x ∧ CN w w' s) := by
  obtain ⟨n1, n2, n3, n4, n5, n6, n7, n8, n10, n12⟩ := hN.1
  refine CI.of (own := RX8) (nm := "count") (lv := [some (.ref (gb g + 0)), some (.int x)]) (by decide) rfl rfl (Nat.le_of_ble_eq_true rfl) rfl (fun Q hQ => ?_)
  refine jr_iload_n dX8_count_0 rfl ?_
  refine swX8_count_1 (fun c_1 => ?_) (fun c_1 => ?_) (fun c_1 => ?_) (fun c_1 => ?_) (fun c_1 => ?_) (fun c_1 => ?_) (fun c_1 => ?_) (fun c_1 => ?_) (fun c_1 => ?_)
  · refine jr_aload_n dX8_count_48 rfl ?_
    refine gfX8_12 1 dX8_count_49 (hw.k rfl) (hw.f rfl) ?_
    refine gfX8_81 dX8_count_52 (hw.k rfl) ?_
    refine jr_iret rfl dX8_count_55 ?_
    refine hQ _ _ ⟨?_, CN.rf hN⟩
    unfold F_count
    first
    | (rw [if_pos (by omega)]; exact n1)
    | (rw [if_neg (by omega), if_pos (by omega)]; exact n7)
    | (rw [if_neg (by omega), if_neg (by omega), if_pos (by omega)]; exact n2)
    | (rw [if_neg (by omega), if_neg (by omega), if_neg (by omega), if_pos (by omega)]; exact n3)
    | (rw [if_neg (by omega), if_neg (by omega), if_neg (by omega), if_neg (by omega), if_pos (by omega)]; exact n12)
    | (rw [if_neg (by omega), if_neg (by omega), if_neg (by omega), if_neg (by omega), if_neg (by omega), if_pos (by omega)]; exact h10)
    | (rw [if_neg (by omega), if_neg (by omega), if_neg (by omega), if_neg (by omega), if_neg (by omega), if_neg (by omega), if_pos (by omega)]; exact h8)
    | (rw [if_neg (by omega), if_neg (by omega), if_neg (by omega), if_neg (by omega), if_neg (by omega), if_neg (by omega), if_neg (by omega), if_pos (by omega)]; exact n8)
    | rw [if_neg (by omega), if_neg (by omega), if_neg (by omega), if_neg (by omega), if_neg (by omega), if_neg (by omega), if_neg (by omega), if_neg (by omega)]
  · refine jr_aload_n dX8_count_56 rfl ?_
    refine gfX8_12 1 dX8_count_57 (hw.k rfl) (hw.f rfl) ?_
    refine gfX8_152 dX8_count_60 (hw.k rfl) ?_
    refine jr_iret rfl dX8_count_63 ?_
    refine hQ _ _ ⟨?_, CN.rf hN⟩
    unfold F_count
    first
    | (rw [if_pos (by omega)]; exact n1)
    | (rw [if_neg (by omega), if_pos (by omega)]; exact n7)
    | (rw [if_neg (by omega), if_neg (by omega), if_pos (by omega)]; exact n2)
    | (rw [if_neg (by omega), if_neg (by omega), if_neg (by omega), if_pos (by omega)]; exact n3)
    | (rw [if_neg (by omega), if_neg (by omega), if_neg (by omega), if_neg (by omega), if_pos (by omega)]; exact n12)
    | (rw [if_neg (by omega), if_neg (by omega), if_neg (by omega), if_neg (by omega), if_neg (by omega), if_pos (by omega)]; exact h10)
    | (rw [if_neg (by omega), if_neg (by omega), if_neg (by omega), if_neg (by omega), if_neg (by omega), if_neg (by omega), if_pos (by omega)]; exact h8)
    | (rw [if_neg (by omega), if_neg (by omega), if_neg (by omega), if_neg (by omega), if_neg (by omega), if_neg (by omega), if_neg (by omega), if_pos (by omega)]; exact n8)
    | rw [if_neg (by omega), if_neg (by omega), if_neg (by omega), if_neg (by omega), if_neg (by omega), if_neg (by omega), if_neg (by omega), if_neg (by omega)]
  · refine jr_aload_n dX8_count_64 rfl ?_
    refine gfX8_12 1 dX8_count_65 (hw.k rfl) (hw.f rfl) ?_
    refine gfX8_131 dX8_count_68 (hw.k rfl) ?_
    refine jr_iret rfl dX8_count_71 ?_
    refine hQ _ _ ⟨?_, CN.rf hN⟩
    unfold F_count
    first
    | (rw [if_pos (by omega)]; exact n1)
    | (rw [if_neg (by omega), if_pos (by omega)]; exact n7)
    | (rw [if_neg (by omega), if_neg (by omega), if_pos (by omega)]; exact n2)
    | (rw [if_neg (by omega), if_neg (by omega), if_neg (by omega), if_pos (by omega)]; exact n3)
    | (rw [if_neg (by omega), if_neg (by omega), if_neg (by omega), if_neg (by omega), if_pos (by omega)]; exact n12)
    | (rw [if_neg (by omega), if_neg (by omega), if_neg (by omega), if_neg (by omega), if_neg (by omega), if_pos (by omega)]; exact h10)
    | (rw [if_neg (by omega), if_neg (by omega), if_neg (by omega), if_neg (by omega), if_neg (by omega), if_neg (by omega), if_pos (by omega)]; exact h8)
    | (rw [if_neg (by omega), if_neg (by omega), if_neg (by omega), if_neg (by omega), if_neg (by omega), if_neg (by omega), if_neg (by omega), if_pos (by omega)]; exact n8)
    | rw [if_neg (by omega), if_neg (by omega), if_neg (by omega), if_neg (by omega), if_neg (by omega), if_neg (by omega), if_neg (by omega), if_neg (by omega)]
  · refine jr_aload_n dX8_count_72 rfl ?_
    refine gfX8_12 1 dX8_count_73 (hw.k rfl) (hw.f rfl) ?_
    refine gfX8_134 dX8_count_76 (hw.k rfl) ?_
    refine jr_iret rfl dX8_count_79 ?_
    refine hQ _ _ ⟨?_, CN.rf hN⟩
    unfold F_count
    first
    | (rw [if_pos (by omega)]; exact n1)
    | (rw [if_neg (by omega), if_pos (by omega)]; exact n7)
    | (rw [if_neg (by omega), if_neg (by omega), if_pos (by omega)]; exact n2)
    | (rw [if_neg (by omega), if_neg (by omega), if_neg (by omega), if_pos (by omega)]; exact n3)
    | (rw [if_neg (by omega), if_neg (by omega), if_neg (by omega), if_neg (by omega), if_pos (by omega)]; exact n12)
    | (rw [if_neg (by omega), if_neg (by omega), if_neg (by omega), if_neg (by omega), if_neg (by omega), if_pos (by omega)]; exact h10)
    | (rw [if_neg (by omega), if_neg (by omega), if_neg (by omega), if_neg (by omega), if_neg (by omega), if_neg (by omega), if_pos (by omega)]; exact h8)
    | (rw [if_neg (by omega), if_neg (by omega), if_neg (by omega), if_neg (by omega), if_neg (by omega), if_neg (by omega), if_neg (by omega), if_pos (by omega)]; exact n8)
    | rw [if_neg (by omega), if_neg (by omega), if_neg (by omega), if_neg (by omega), if_neg (by omega), if_neg (by omega), if_neg (by omega), if_neg (by omega)]
  · refine jr_aload_n dX8_count_80 rfl ?_
    refine gfX8_12 1 dX8_count_81 (hw.k rfl) (hw.f rfl) ?_
    refine gfX8_243 dX8_count_84 (hw.k rfl) ?_
    refine jr_iret rfl dX8_count_87 ?_
    refine hQ _ _ ⟨?_, CN.rf hN⟩
    unfold F_count
    first
    | (rw [if_pos (by omega)]; exact n1)
    | (rw [if_neg (by omega), if_pos (by omega)]; exact n7)
    | (rw [if_neg (by omega), if_neg (by omega), if_pos (by omega)]; exact n2)
    | (rw [if_neg (by omega), if_neg (by omega), if_neg (by omega), if_pos (by omega)]; exact n3)
    | (rw [if_neg (by omega), if_neg (by omega), if_neg (by omega), if_neg (by omega), if_pos (by omega)]; exact n12)
    | (rw [if_neg (by omega), if_neg (by omega), if_neg (by omega), if_neg (by omega), if_neg (by omega), if_pos (by omega)]; exact h10)
    | (rw [if_neg (by omega), if_neg (by omega), if_neg (by omega), if_neg (by omega), if_neg (by omega), if_neg (by omega), if_pos (by omega)]; exact h8)
    | (rw [if_neg (by omega), if_neg (by omega), if_neg (by omega), if_neg (by omega), if_neg (by omega), if_neg (by omega), if_neg (by omega), if_pos (by omega)]; exact n8)
    | rw [if_neg (by omega), if_neg (by omega), if_neg (by omega), if_neg (by omega), if_neg (by omega), if_neg (by omega), if_neg (by omega), if_neg (by omega)]
  · refine jr_aload_n dX8_count_88 rfl ?_
    refine gfX8_59 dX8_count_89 (hw.k rfl) ?_
    refine jr_iret rfl dX8_count_92 ?_
    refine hQ _ _ ⟨?_, CN.rf hN⟩
    unfold F_count
    first
    | (rw [if_pos (by omega)]; exact n1)
    | (rw [if_neg (by omega), if_pos (by omega)]; exact n7)
    | (rw [if_neg (by omega), if_neg (by omega), if_pos (by omega)]; exact n2)
    | (rw [if_neg (by omega), if_neg (by omega), if_neg (by omega), if_pos (by omega)]; exact n3)
    | (rw [if_neg (by omega), if_neg (by omega), if_neg (by omega), if_neg (by omega), if_pos (by omega)]; exact n12)
    | (rw [if_neg (by omega), if_neg (by omega), if_neg (by omega), if_neg (by omega), if_neg (by omega), if_pos (by omega)]; exact h10)
    | (rw [if_neg (by omega), if_neg (by omega), if_neg (by omega), if_neg (by omega), if_neg (by omega), if_neg (by omega), if_pos (by omega)]; exact h8)
    | (rw [if_neg (by omega), if_neg (by omega), if_neg (by omega), if_neg (by omega), if_neg (by omega), if_neg (by omega), if_neg (by omega), if_pos (by omega)]; exact n8)
    | rw [if_neg (by omega), if_neg (by omega), if_neg (by omega), if_neg (by omega), if_neg (by omega), if_neg (by omega), if_neg (by omega), if_neg (by omega)]
  · refine jr_aload_n dX8_count_93 rfl ?_
    refine gfX8_51 dX8_count_94 (hw.k rfl) ?_
    refine jr_iret rfl dX8_count_97 ?_
    refine hQ _ _ ⟨?_, CN.rf hN⟩
    unfold F_count
    first
    | (rw [if_pos (by omega)]; exact n1)
    | (rw [if_neg (by omega), if_pos (by omega)]; exact n7)
    | (rw [if_neg (by omega), if_neg (by omega), if_pos (by omega)]; exact n2)
    | (rw [if_neg (by omega), if_neg (by omega), if_neg (by omega), if_pos (by omega)]; exact n3)
    | (rw [if_neg (by omega), if_neg (by omega), if_neg (by omega), if_neg (by omega), if_pos (by omega)]; exact n12)
    | (rw [if_neg (by omega), if_neg (by omega), if_neg (by omega), if_neg (by omega), if_neg (by omega), if_pos (by omega)]; exact h10)
    | (rw [if_neg (by omega), if_neg (by omega), if_neg (by omega), if_neg (by omega), if_neg (by omega), if_neg (by omega), if_pos (by omega)]; exact h8)
    | (rw [if_neg (by omega), if_neg (by omega), if_neg (by omega), if_neg (by omega), if_neg (by omega), if_neg (by omega), if_neg (by omega), if_pos (by omega)]; exact n8)
    | rw [if_neg (by omega), if_neg (by omega), if_neg (by omega), if_neg (by omega), if_neg (by omega), if_neg (by omega), if_neg (by omega), if_neg (by omega)]
  · refine jr_aload_n dX8_count_98 rfl ?_
    refine gfX8_12 1 dX8_count_99 (hw.k rfl) (hw.f rfl) ?_
    refine gfX8_146 dX8_count_102 (hw.k rfl) ?_
    refine jr_iret rfl dX8_count_105 ?_
    refine hQ _ _ ⟨?_, CN.rf hN⟩
    unfold F_count
    first
    | (rw [if_pos (by omega)]; exact n1)
    | (rw [if_neg (by omega), if_pos (by omega)]; exact n7)
    | (rw [if_neg (by omega), if_neg (by omega), if_pos (by omega)]; exact n2)
    | (rw [if_neg (by omega), if_neg (by omega), if_neg (by omega), if_pos (by omega)]; exact n3)
    | (rw [if_neg (by omega), if_neg (by omega), if_neg (by omega), if_neg (by omega), if_pos (by omega)]; exact n12)
    | (rw [if_neg (by omega), if_neg (by omega), if_neg (by omega), if_neg (by omega), if_neg (by omega), if_pos (by omega)]; exact h10)
    | (rw [if_neg (by omega), if_neg (by omega), if_neg (by omega), if_neg (by omega), if_neg (by omega), if_neg (by omega), if_pos (by omega)]; exact h8)
    | (rw [if_neg (by omega), if_neg (by omega), if_neg (by omega), if_neg (by omega), if_neg (by omega), if_neg (by omega), if_neg (by omega), if_pos (by omega)]; exact n8)
    | rw [if_neg (by omega), if_neg (by omega), if_neg (by omega), if_neg (by omega), if_neg (by omega), if_neg (by omega), if_neg (by omega), if_neg (by omega)]
  · refine jr_ldc (-1000000001) ckX8_80 dX8_count_106 ?_
    refine jr_iret rfl dX8_count_108 ?_
    refine hQ _ _ ⟨?_, CN.rf hN⟩
    unfold F_count
    first
    | (rw [if_pos (by omega)]; exact n1)
    | (rw [if_neg (by omega), if_pos (by omega)]; exact n7)
    | (rw [if_neg (by omega), if_neg (by omega), if_pos (by omega)]; exact n2)
    | (rw [if_neg (by omega), if_neg (by omega), if_neg (by omega), if_pos (by omega)]; exact n3)
    | (rw [if_neg (by omega), if_neg (by omega), if_neg (by omega), if_neg (by omega), if_pos (by omega)]; exact n12)
    | (rw [if_neg (by omega), if_neg (by omega), if_neg (by omega), if_neg (by omega), if_neg (by omega), if_pos (by omega)]; exact h10)
    | (rw [if_neg (by omega), if_neg (by omega), if_neg (by omega), if_neg (by omega), if_neg (by omega), if_neg (by omega), if_pos (by omega)]; exact h8)
    | (rw [if_neg (by omega), if_neg (by omega), if_neg (by omega), if_neg (by omega), if_neg (by omega), if_neg (by omega), if_neg (by omega), if_pos (by omega)]; exact n8)
    | rw [if_neg (by omega), if_neg (by omega), if_neg (by omega), if_neg (by omega), if_neg (by omega), if_neg (by omega), if_neg (by omega), if_neg (by omega)]
