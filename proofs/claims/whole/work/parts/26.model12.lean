-- the reference: sheets against clocks
def wiI (v : Int32) : Int32 := if v.toInt < 0 then 0 else if 59 < v.toInt then 59 else v
/-- pour: the row, and how many are otherwise, behind the first k places -/
def prS (tn : Nat → Int32) (q : Nat) (s : Nat → Int32) : Nat → (Nat → Int32) × Nat
  | 0 => (s, 0)
  | k + 1 => (upd (prS tn q s k).1 (10 + 3 * k + 1) (if tn (24 * q + k) = -1000000005 then (prS tn q s k).1 (10 + 3 * k + 1) else wiI (tn (24 * q + k))),
      (prS tn q s k).2 + (if (if tn (24 * q + k) = -1000000005 then (prS tn q s k).1 (10 + 3 * k + 1) else wiI (tn (24 * q + k))) = (prS tn q s k).1 (10 + 3 * k + 1) then 0 else 1))
theorem prS_0 (tn : Nat → Int32) (q : Nat) (s : Nat → Int32) : ∀ k, (prS tn q s k).1 0 = s 0
  | 0 => rfl
  | k + 1 => by
    simp only [prS]
    rw [pk_un (by omega), prS_0 tn q s k]
def F_pour (R : Sh) (s : Nat → Int32) (k : Int32) : Ro :=
  if ¬ isS k then (-1000000001, s) else if (R.1 k.toNatClampNeg).toInt < 0 then (-1000000011, s)
  else (nI (prS R.2.2 k.toNatClampNeg s (min (sN R.2.1 k.toNatClampNeg) (sN s 0))).2, (prS R.2.2 k.toNatClampNeg s (min (sN R.2.1 k.toNatClampNeg) (sN s 0))).1)
theorem m_pour (g : Cx) (w : Wd) (hw : Wf w) (s : Nat → Int32) (hs : wI w 79 = s) (hG : Gd s) (R : Sh) (hR : wI w 82 = R.1 ∧ wI w 83 = R.2.1 ∧ wI w 84 = R.2.2) (hO : ShOk R) (k : Int32) : CI g yX9_pour cX9_pour 6 (some .int) 3 0 0 [.ref (gb g + 78), .int k] w (fun r w' => r = (F_pour R s k).1 ∧ MS w w' (F_pour R s k).2) := by
  obtain ⟨R1, R2, R3⟩ := R
  simp only at hR
  obtain ⟨hR1, hR2, hR3⟩ := hR
  obtain ⟨h0, -⟩ := id hG
  have h6 := h0.2
  refine CI.of (own := RX9) (nm := "pour") (lv := [some (.ref (gb g + 78)), some (.int k), none, none, none, none]) (by decide) rfl rfl (Nat.le_of_ble_eq_true rfl) rfl (fun Q hQ => ?_)
  by_cases hc : isS k
  · obtain ⟨q, hq, ek⟩ := i_of (n := 4) hc.1 hc.2
    subst ek
    obtain ⟨-, n, hn, en⟩ := hO q hq
    simp only at en
    have esz : sN R2 q = n := sN_of en (by omega)
    have L : ¬ (R1 q).toInt < 0 → ∀ (f i : Nat) (w1 : Wd) (a4 a5 : Option Value), f + i = min n (sN s 0) → wI w1 79 = (prS R3 q s i).1 → Sm (fun j => j = 79) w w1 → RR g RX9 cX9_pour 6 (some .int) "pour" 3 0 0 0 0 26 [some (.ref (gb g + 78)), some (.int (nI q)), some (.int (nI (prS R3 q s i).2)), some (.int (nI i)), a4, a5] [] w1 Q := by
      intro hso f
      induction f with
      | zero =>
        intro i w1 a4 a5 hi hr hS
        have ei : i = min n (sN s 0) := by omega
        have hw1 := hS.wf hw
        have hfin : Q (some (.int (nI (prS R3 q s i).2))) w1 := hQ _ _ (fin2 (s' := (prS R3 q s i).1) (by rw [F_pour, if_neg (fun h => h hc), nI_clamp (by omega), if_neg hso, esz, ei]) ⟨hr, hS.mono (fun j e => Or.inl e)⟩)
        by_cases hin : n ≤ i
        · refine jr_iload_n dX9_pour_26 rfl ?_
          refine jr_aload_n dX9_pour_27 rfl ?_
          refine gfX9_22 83 dX9_pour_28 (hw1.k rfl) (hw1.f rfl) ?_
          refine jr_iload_n dX9_pour_31 rfl ?_
          refine jr_iald q (hw1.k rfl) rfl ⟨hq, by decide⟩ dX9_pour_32 ?_
          rw [hS.row (by decide), hR2, en]
          refine jr_icmp_ge 124 dX9_pour_33 (by decide) (fun c_33 => ?_) (fun c_33 => absurd (nI_le hin (by omega)) c_33)
          refine jr_iload_n dX9_pour_124 rfl ?_
          refine jr_iret rfl dX9_pour_125 ?_
          exact hfin
        · refine jr_iload_n dX9_pour_26 rfl ?_
          refine jr_aload_n dX9_pour_27 rfl ?_
          refine gfX9_22 83 dX9_pour_28 (hw1.k rfl) (hw1.f rfl) ?_
          refine jr_iload_n dX9_pour_31 rfl ?_
          refine jr_iald q (hw1.k rfl) rfl ⟨hq, by decide⟩ dX9_pour_32 ?_
          rw [hS.row (by decide), hR2, en]
          refine jr_icmp_ge 124 dX9_pour_33 (by decide) (fun c_33 => absurd c_33 (nI_ge (by omega) (by omega))) (fun c_33 => ?_)
          refine jr_iload_n dX9_pour_36 rfl ?_
          refine jr_aload_n dX9_pour_37 rfl ?_
          refine gfX9_7 79 dX9_pour_38 (hw1.k rfl) (hw1.f rfl) ?_
          refine jr_iconst (0) dX9_pour_41 (by decide) ?_
          refine jr_iald 0 (hw1.k rfl) rfl (by decide) dX9_pour_42 ?_
          rw [hr, prS_0, h0.1]
          refine jr_icmp_ge 124 dX9_pour_43 (by decide) (fun c_43 => ?_) (fun c_43 => absurd (nI_le (by omega) (by omega)) c_43)
          refine jr_iload_n dX9_pour_124 rfl ?_
          refine jr_iret rfl dX9_pour_125 ?_
          exact hfin
      | succ f ih =>
        intro i w1 a4 a5 hi hr hS
        have hw1 := hS.wf hw
        have hps : prS R3 q s (i + 1) = (upd (prS R3 q s i).1 (10 + 3 * i + 1) (if R3 (24 * q + i) = -1000000005 then (prS R3 q s i).1 (10 + 3 * i + 1) else wiI (R3 (24 * q + i))), (prS R3 q s i).2 + (if (if R3 (24 * q + i) = -1000000005 then (prS R3 q s i).1 (10 + 3 * i + 1) else wiI (R3 (24 * q + i))) = (prS R3 q s i).1 (10 + 3 * i + 1) then 0 else 1)) := rfl
        refine jr_iload_n dX9_pour_26 rfl ?_
        refine jr_aload_n dX9_pour_27 rfl ?_
        refine gfX9_22 83 dX9_pour_28 (hw1.k rfl) (hw1.f rfl) ?_
        refine jr_iload_n dX9_pour_31 rfl ?_
        refine jr_iald q (hw1.k rfl) rfl ⟨hq, by decide⟩ dX9_pour_32 ?_
        rw [hS.row (by decide), hR2, en]
        refine jr_icmp_ge 124 dX9_pour_33 (by decide) (fun c_33 => absurd c_33 (nI_ge (by omega) (by omega))) (fun c_33 => ?_)
        refine jr_iload_n dX9_pour_36 rfl ?_
        refine jr_aload_n dX9_pour_37 rfl ?_
        refine gfX9_7 79 dX9_pour_38 (hw1.k rfl) (hw1.f rfl) ?_
        refine jr_iconst (0) dX9_pour_41 (by decide) ?_
        refine jr_iald 0 (hw1.k rfl) rfl (by decide) dX9_pour_42 ?_
        rw [hr, prS_0, h0.1]
        refine jr_icmp_ge 124 dX9_pour_43 (by decide) (fun c_43 => absurd c_43 (nI_ge (by omega) (by omega))) (fun c_43 => ?_)
        refine jr_aload_n dX9_pour_46 rfl ?_
        refine gfX9_25 84 dX9_pour_47 (hw1.k rfl) (hw1.f rfl) ?_
        refine jr_bipush (24) dX9_pour_50 (by decide) ?_
        refine jr_iload_n dX9_pour_52 rfl ?_
        refine jr_imul dX9_pour_53 ?_
        refine jr_iload_n dX9_pour_54 rfl ?_
        refine jr_iadd dX9_pour_55 ?_
        refine jr_iald (24 * q + i) (hw1.k rfl) (by rw [jlit 24, pk_mul, nI_add]) ⟨by omega, by decide⟩ dX9_pour_56 ?_
        rw [hS.row (by decide), hR3]
        refine jr_istore_4 dX9_pour_57 (by decide) rfl ?_
        refine jr_iload dX9_pour_59 rfl ?_
        refine jr_ldc (-1000000005) ckX9_67 dX9_pour_61 ?_
        refine jr_icmp_ne 82 dX9_pour_63 (by decide) (fun c_63 => ?_) (fun c_63 => ?_)
        · rw [if_neg c_63] at hps
          refine jr_iload dX9_pour_82 rfl ?_
          refine jr_bipush (59) dX9_pour_84 (by decide) ?_
          refine jc_Si (c_mwithin g _ _ _) lkX9_304 rfl rfl (Nat.le_of_ble_eq_true rfl) (Nat.le_of_ble_eq_true rfl) dX9_pour_86 (fun r_86 w_86 h_86 => ?_)
          obtain ⟨rfl, rfl⟩ := h_86
          refine jr_istore_5 dX9_pour_89 (by decide) rfl ?_
          refine jr_iload_n dX9_pour_91 rfl ?_
          refine jr_iload dX9_pour_92 rfl ?_
          refine jr_aload_n dX9_pour_94 rfl ?_
          refine jr_bipush (10) dX9_pour_95 (by decide) ?_
          refine jr_iconst (3) dX9_pour_97 (by decide) ?_
          refine jr_iload_n dX9_pour_98 rfl ?_
          refine jr_imul dX9_pour_99 ?_
          refine jr_iadd dX9_pour_100 ?_
          refine jr_iconst (1) dX9_pour_101 (by decide) ?_
          refine jr_iadd dX9_pour_102 ?_
          rw [show (10 : Int32) + 3 * nI i + 1 = nI (10 + 3 * i + 1) by simp only [jlit, pk_mul, nI_add]]
          refine jr_iload dX9_pour_103 rfl ?_
          refine jc_Vi (c_becomes g _ hw1 (10 + 3 * i + 1) _ (by omega)) lkX9_126 (hw1.k rfl) rfl rfl (Nat.le_of_ble_eq_true rfl) (Nat.le_of_ble_eq_true rfl) dX9_pour_105 (fun r_105 w_105 h_105 => ?_)
          obtain ⟨rfl, rfl⟩ := h_105
          rw [hr]
          refine jr_icmp_ne 115 dX9_pour_108 (by decide) (fun c_108 => ?_) (fun c_108 => ?_)
          · refine jr_iconst (1) dX9_pour_115 (by decide) ?_
            refine jr_iadd dX9_pour_116 ?_
            first | rw [Int32.add_zero] | rw [nI_1]
            refine jr_istore_2 dX9_pour_117 (by decide) rfl ?_
            refine jr_iinc_3 (nI (i + 1)) dX9_pour_118 (inc1 i) (by decide) rfl ?_
            refine jr_goto 26 dX9_pour_121 (by decide) ?_
            have hs2 : Sm (fun j => j = 79) w (sR w1 79 (prS R3 q s (i + 1)).1) := hS.tr (Sm.sR rfl)
            have h9 := ih (i + 1) _ (some (.int (R3 (24 * q + i)))) (some (.int (if R3 (24 * q + i) = -1000000005 then (prS R3 q s i).1 (10 + 3 * i + 1) else wiI (R3 (24 * q + i))))) (by omega) (wI_sR_s _ _ _) hs2
            rw [hps] at h9
            first | (rw [if_neg c_63] at h9) | (rw [if_pos c_63] at h9)
            first | (rw [if_pos (show wiI (R3 (24 * q + i)) = (prS R3 q s i).1 (10 + 3 * i + 1) from c_108)] at h9; exact h9) | (rw [if_neg (show ¬ wiI (R3 (24 * q + i)) = (prS R3 q s i).1 (10 + 3 * i + 1) from c_108)] at h9; exact h9) | (rw [if_pos rfl] at h9; exact h9) | exact absurd rfl c_108
          · refine jr_iconst (0) dX9_pour_111 (by decide) ?_
            refine jr_goto 116 dX9_pour_112 (by decide) ?_
            refine jr_iadd dX9_pour_116 ?_
            first | rw [Int32.add_zero] | rw [nI_1]
            refine jr_istore_2 dX9_pour_117 (by decide) rfl ?_
            refine jr_iinc_3 (nI (i + 1)) dX9_pour_118 (inc1 i) (by decide) rfl ?_
            refine jr_goto 26 dX9_pour_121 (by decide) ?_
            have hs2 : Sm (fun j => j = 79) w (sR w1 79 (prS R3 q s (i + 1)).1) := hS.tr (Sm.sR rfl)
            have h9 := ih (i + 1) _ (some (.int (R3 (24 * q + i)))) (some (.int (if R3 (24 * q + i) = -1000000005 then (prS R3 q s i).1 (10 + 3 * i + 1) else wiI (R3 (24 * q + i))))) (by omega) (wI_sR_s _ _ _) hs2
            rw [hps] at h9
            first | (rw [if_neg c_63] at h9) | (rw [if_pos c_63] at h9)
            first | (rw [if_pos (show wiI (R3 (24 * q + i)) = (prS R3 q s i).1 (10 + 3 * i + 1) from c_108)] at h9; exact h9) | (rw [if_neg (show ¬ wiI (R3 (24 * q + i)) = (prS R3 q s i).1 (10 + 3 * i + 1) from c_108)] at h9; exact h9) | (rw [if_pos rfl] at h9; exact h9) | exact absurd rfl c_108
        · rw [if_pos c_63] at hps
          refine jr_aload_n dX9_pour_66 rfl ?_
          refine gfX9_7 79 dX9_pour_67 (hw1.k rfl) (hw1.f rfl) ?_
          refine jr_bipush (10) dX9_pour_70 (by decide) ?_
          refine jr_iconst (3) dX9_pour_72 (by decide) ?_
          refine jr_iload_n dX9_pour_73 rfl ?_
          refine jr_imul dX9_pour_74 ?_
          refine jr_iadd dX9_pour_75 ?_
          refine jr_iconst (1) dX9_pour_76 (by decide) ?_
          refine jr_iadd dX9_pour_77 ?_
          refine jr_iald (10 + 3 * i + 1) (hw1.k rfl) (by simp only [jlit, pk_mul, nI_add]) ⟨by omega, by decide⟩ dX9_pour_78 ?_
          rw [hr]
          refine jr_goto 89 dX9_pour_79 (by decide) ?_
          refine jr_istore_5 dX9_pour_89 (by decide) rfl ?_
          refine jr_iload_n dX9_pour_91 rfl ?_
          refine jr_iload dX9_pour_92 rfl ?_
          refine jr_aload_n dX9_pour_94 rfl ?_
          refine jr_bipush (10) dX9_pour_95 (by decide) ?_
          refine jr_iconst (3) dX9_pour_97 (by decide) ?_
          refine jr_iload_n dX9_pour_98 rfl ?_
          refine jr_imul dX9_pour_99 ?_
          refine jr_iadd dX9_pour_100 ?_
          refine jr_iconst (1) dX9_pour_101 (by decide) ?_
          refine jr_iadd dX9_pour_102 ?_
          rw [show (10 : Int32) + 3 * nI i + 1 = nI (10 + 3 * i + 1) by simp only [jlit, pk_mul, nI_add]]
          refine jr_iload dX9_pour_103 rfl ?_
          refine jc_Vi (c_becomes g _ hw1 (10 + 3 * i + 1) _ (by omega)) lkX9_126 (hw1.k rfl) rfl rfl (Nat.le_of_ble_eq_true rfl) (Nat.le_of_ble_eq_true rfl) dX9_pour_105 (fun r_105 w_105 h_105 => ?_)
          obtain ⟨rfl, rfl⟩ := h_105
          rw [hr]
          refine jr_icmp_ne 115 dX9_pour_108 (by decide) (fun c_108 => ?_) (fun c_108 => ?_)
          · refine jr_iconst (1) dX9_pour_115 (by decide) ?_
            refine jr_iadd dX9_pour_116 ?_
            first | rw [Int32.add_zero] | rw [nI_1]
            refine jr_istore_2 dX9_pour_117 (by decide) rfl ?_
            refine jr_iinc_3 (nI (i + 1)) dX9_pour_118 (inc1 i) (by decide) rfl ?_
            refine jr_goto 26 dX9_pour_121 (by decide) ?_
            have hs2 : Sm (fun j => j = 79) w (sR w1 79 (prS R3 q s (i + 1)).1) := hS.tr (Sm.sR rfl)
            have h9 := ih (i + 1) _ (some (.int (R3 (24 * q + i)))) (some (.int (if R3 (24 * q + i) = -1000000005 then (prS R3 q s i).1 (10 + 3 * i + 1) else wiI (R3 (24 * q + i))))) (by omega) (wI_sR_s _ _ _) hs2
            rw [hps] at h9
            first | (rw [if_neg c_63] at h9) | (rw [if_pos c_63] at h9)
            first | (rw [if_pos (show wiI (R3 (24 * q + i)) = (prS R3 q s i).1 (10 + 3 * i + 1) from c_108)] at h9; exact h9) | (rw [if_neg (show ¬ wiI (R3 (24 * q + i)) = (prS R3 q s i).1 (10 + 3 * i + 1) from c_108)] at h9; exact h9) | (rw [if_pos rfl] at h9; exact h9) | exact absurd rfl c_108
          · refine jr_iconst (0) dX9_pour_111 (by decide) ?_
            refine jr_goto 116 dX9_pour_112 (by decide) ?_
            refine jr_iadd dX9_pour_116 ?_
            first | rw [Int32.add_zero] | rw [nI_1]
            refine jr_istore_2 dX9_pour_117 (by decide) rfl ?_
            refine jr_iinc_3 (nI (i + 1)) dX9_pour_118 (inc1 i) (by decide) rfl ?_
            refine jr_goto 26 dX9_pour_121 (by decide) ?_
            have hs2 : Sm (fun j => j = 79) w (sR w1 79 (prS R3 q s (i + 1)).1) := hS.tr (Sm.sR rfl)
            have h9 := ih (i + 1) _ (some (.int (R3 (24 * q + i)))) (some (.int (if R3 (24 * q + i) = -1000000005 then (prS R3 q s i).1 (10 + 3 * i + 1) else wiI (R3 (24 * q + i))))) (by omega) (wI_sR_s _ _ _) hs2
            rw [hps] at h9
            first | (rw [if_neg c_63] at h9) | (rw [if_pos c_63] at h9)
            first | (rw [if_pos (show wiI (R3 (24 * q + i)) = (prS R3 q s i).1 (10 + 3 * i + 1) from c_108)] at h9; exact h9) | (rw [if_neg (show ¬ wiI (R3 (24 * q + i)) = (prS R3 q s i).1 (10 + 3 * i + 1) from c_108)] at h9; exact h9) | (rw [if_pos rfl] at h9; exact h9) | exact absurd rfl c_108
    refine jr_iload_n dX9_pour_0 rfl ?_
    refine jc_Si (c_isSheet g _ _) lkX9_178 rfl rfl (Nat.le_of_ble_eq_true rfl) (Nat.le_of_ble_eq_true rfl) dX9_pour_1 (fun r_1 w_1 h_1 => ?_)
    obtain ⟨rfl, rfl⟩ := h_1
    refine jr_if_ne 10 dX9_pour_4 (by decide) (fun c_4 => ?_) (fun c_4 => absurd c_4 (jb_1.mpr hc))
    refine jr_aload_n dX9_pour_10 rfl ?_
    refine gfX9_19 82 dX9_pour_11 (hw.k rfl) (hw.f rfl) ?_
    refine jr_iload_n dX9_pour_14 rfl ?_
    refine jr_iald q (hw.k rfl) rfl ⟨hq, by decide⟩ dX9_pour_15 ?_
    rw [hR1]
    refine jr_if_ge 22 dX9_pour_16 (by decide) (fun c_16 => ?_) (fun c_16 => ?_)
    · simp only [lt_i, le_i, eq_i, Int32.reduceToInt] at c_16
      refine jr_iconst (0) dX9_pour_22 (by decide) ?_
      refine jr_istore_2 dX9_pour_23 (by decide) rfl ?_
      refine jr_iconst (0) dX9_pour_24 (by decide) ?_
      refine jr_istore_3 dX9_pour_25 (by decide) rfl ?_
      exact L (by omega) (min n (sN s 0)) 0 w none none (by omega) hs Sm.rf
    · simp only [lt_i, le_i, eq_i, Int32.reduceToInt] at c_16
      refine jr_ldc (-1000000011) ckX9_181 dX9_pour_19 ?_
      refine jr_iret rfl dX9_pour_21 ?_
      exact hQ _ _ (fin2 (by rw [F_pour, if_neg (fun h => h hc), nI_clamp (by omega), if_pos (show (R1 q).toInt < 0 by omega)]) (MS.rf hs))
  · refine jr_iload_n dX9_pour_0 rfl ?_
    refine jc_Si (c_isSheet g _ _) lkX9_178 rfl rfl (Nat.le_of_ble_eq_true rfl) (Nat.le_of_ble_eq_true rfl) dX9_pour_1 (fun r_1 w_1 h_1 => ?_)
    obtain ⟨rfl, rfl⟩ := h_1
    refine jr_if_ne 10 dX9_pour_4 (by decide) (fun c_4 => absurd (jb_f hc) c_4) (fun c_4 => ?_)
    refine jr_ldc (-1000000001) ckX9_83 dX9_pour_7 ?_
    refine jr_iret rfl dX9_pour_9 ?_
    exact hQ _ _ (fin2 (by rw [F_pour, if_pos hc]) (MS.rf hs))
def rdP (s tn : Nat → Int32) (q k : Nat) : Bool := decide (¬ tn (24 * q + k) = -1000000005 ∧ (sN s 0 ≤ k ∨ ¬ tn (24 * q + k) = nI (stkF s k (sN s 2 % 720))))
def F_reads (R : Sh) (s : Nat → Int32) (k : Int32) : Int32 :=
  if ¬ isS k then -1000000001 else if (R.1 k.toNatClampNeg).toInt < 0 then -1000000011
  else if fstB (rdP s R.2.2 k.toNatClampNeg) (sN R.2.1 k.toNatClampNeg) < sN R.2.1 k.toNatClampNeg then nI (fstB (rdP s R.2.2 k.toNatClampNeg) (sN R.2.1 k.toNatClampNeg)) else -1000000005
theorem m_reads (g : Cx) (w : Wd) (hw : Wf w) (s : Nat → Int32) (hs : wI w 79 = s) (hG : Gd s) (R : Sh) (hR : wI w 82 = R.1 ∧ wI w 83 = R.2.1 ∧ wI w 84 = R.2.2) (hO : ShOk R) (k : Int32) : CI g yX9_reads cX9_reads 4 (some .int) 5 0 0 [.ref (gb g + 78), .int k] w (fun r w' => r = F_reads R s k ∧ MS w w' s) := by
  obtain ⟨R1, R2, R3⟩ := R
  simp only at hR
  obtain ⟨hR1, hR2, hR3⟩ := hR
  obtain ⟨h0, -, hmi, -⟩ := id hG
  have h6 := h0.2
  refine CI.of (own := RX9) (nm := "reads") (lv := [some (.ref (gb g + 78)), some (.int k), none, none]) (by decide) rfl rfl (Nat.le_of_ble_eq_true rfl) rfl (fun Q hQ => ?_)
  by_cases hc : isS k
  · obtain ⟨q, hq, ek⟩ := i_of (n := 4) hc.1 hc.2
    subst ek
    obtain ⟨-, n, hn, en⟩ := hO q hq
    simp only at en
    have esz : sN R2 q = n := sN_of en (by omega)
    have L : ¬ (R1 q).toInt < 0 → ∀ (f i : Nat) (w1 : Wd) (a3 : Option Value), f + i = n → Sm scM w w1 → (∀ j, j < i → rdP s R3 q j = false) → RR g RX9 cX9_reads 4 (some .int) "reads" 5 0 0 0 0 24 [some (.ref (gb g + 78)), some (.int (nI q)), some (.int (nI i)), a3] [] w1 Q := by
      intro hso f
      induction f with
      | zero =>
        intro i w1 a3 hi hS hj
        have ei : i = n := by omega
        subst ei
        have hw1 := hS.wf hw
        refine jr_iload_n dX9_reads_24 rfl ?_
        refine jr_aload_n dX9_reads_25 rfl ?_
        refine gfX9_22 83 dX9_reads_26 (hw1.k rfl) (hw1.f rfl) ?_
        refine jr_iload_n dX9_reads_29 rfl ?_
        refine jr_iald q (hw1.k rfl) rfl ⟨hq, by decide⟩ dX9_reads_30 ?_
        rw [hS.row (scM_n (by decide)), hR2, en]
        refine jr_icmp_ge 83 dX9_reads_31 (by decide) (fun c_31 => ?_) (fun c_31 => absurd (Int32.le_refl _) c_31)
        refine jr_ldc (-1000000005) ckX9_67 dX9_reads_83 ?_
        refine jr_iret rfl dX9_reads_85 ?_
        exact hQ _ _ ⟨by rw [F_reads, if_neg (fun h => h hc), nI_clamp (by omega), if_neg hso, esz, fstB_none hj, if_neg (by omega)], MS.m hs hS⟩
      | succ f ih =>
        intro i w1 a3 hi hS hj
        have hw1 := hS.wf hw
        have hs1 : wI w1 79 = s := (hS.row (scM_n (by decide))).trans hs
        have ei := i_nI (n := i) (by omega)
        have e6 := i_nI (n := sN s 0) (by omega)
        have hfin : rdP s R3 q i = true → F_reads (R1, R2, R3) s (nI q) = nI i := fun hp => by rw [F_reads, if_neg (fun h => h hc), nI_clamp (by omega), if_neg hso, esz, fstB_at hj hp (n := n) (by omega), if_pos (by omega)]
        have hgo : rdP s R3 q i = false → ∀ j, j < i + 1 → rdP s R3 q j = false := fun hp j hj2 => by
          by_cases e : j = i
          · rw [e]; exact hp
          · exact hj j (by omega)
        refine jr_iload_n dX9_reads_24 rfl ?_
        refine jr_aload_n dX9_reads_25 rfl ?_
        refine gfX9_22 83 dX9_reads_26 (hw1.k rfl) (hw1.f rfl) ?_
        refine jr_iload_n dX9_reads_29 rfl ?_
        refine jr_iald q (hw1.k rfl) rfl ⟨hq, by decide⟩ dX9_reads_30 ?_
        rw [hS.row (scM_n (by decide)), hR2, en]
        refine jr_icmp_ge 83 dX9_reads_31 (by decide) (fun c_31 => absurd c_31 (nI_ge (by omega) (by omega))) (fun c_31 => ?_)
        refine jr_aload_n dX9_reads_34 rfl ?_
        refine gfX9_25 84 dX9_reads_35 (hw1.k rfl) (hw1.f rfl) ?_
        refine jr_bipush (24) dX9_reads_38 (by decide) ?_
        refine jr_iload_n dX9_reads_40 rfl ?_
        refine jr_imul dX9_reads_41 ?_
        refine jr_iload_n dX9_reads_42 rfl ?_
        refine jr_iadd dX9_reads_43 ?_
        refine jr_iald (24 * q + i) (hw1.k rfl) (by rw [jlit 24, pk_mul, nI_add]) ⟨by omega, by decide⟩ dX9_reads_44 ?_
        rw [hS.row (scM_n (by decide)), hR3]
        refine jr_istore_3 dX9_reads_45 (by decide) rfl ?_
        refine jr_iload_n dX9_reads_46 rfl ?_
        refine jr_ldc (-1000000005) ckX9_67 dX9_reads_47 ?_
        refine jr_icmp_eq 77 dX9_reads_49 (by decide) (fun c_49 => ?_) (fun c_49 => ?_)
        · refine jr_iinc_2 (nI (i + 1)) dX9_reads_77 (inc1 i) (by decide) rfl ?_
          refine jr_goto 24 dX9_reads_80 (by decide) ?_
          have hp : rdP s R3 q i = false := by
            unfold rdP
            rw [decide_eq_false_iff_not]
            first | exact fun h => h.1 c_49 | exact fun h => h.2.elim (fun z => by omega) (fun z => z c_72)
          first | exact ih (i + 1) _ _ (by omega) hS (hgo hp) | exact ih (i + 1) _ _ (by omega) (hS.tr hS2) (hgo hp)
        · refine jr_iload_n dX9_reads_52 rfl ?_
          refine jr_aload_n dX9_reads_53 rfl ?_
          refine gfX9_7 79 dX9_reads_54 (hw1.k rfl) (hw1.f rfl) ?_
          refine jr_iconst (0) dX9_reads_57 (by decide) ?_
          refine jr_iald 0 (hw1.k rfl) rfl (by decide) dX9_reads_58 ?_
          rw [hs1, h0.1]
          refine jr_icmp_ge 75 dX9_reads_59 (by decide) (fun c_59 => ?_) (fun c_59 => ?_)
          · simp only [lt_i, le_i, eq_i, Int32.reduceToInt] at c_59
            refine jr_iload_n dX9_reads_75 rfl ?_
            refine jr_iret rfl dX9_reads_76 ?_
            have hp : rdP s R3 q i = true := by
              unfold rdP
              rw [decide_eq_true_eq]
              first | exact ⟨c_49, Or.inl (by omega)⟩ | exact ⟨c_49, Or.inr c_72⟩
            first | exact hQ _ _ ⟨(hfin hp).symm, MS.m hs hS⟩ | exact hQ _ _ ⟨(hfin hp).symm, MS.m hs (hS.tr hS2)⟩
          · simp only [lt_i, le_i, eq_i, Int32.reduceToInt] at c_59
            refine jr_iload_n dX9_reads_62 rfl ?_
            refine jr_aload_n dX9_reads_63 rfl ?_
            refine jr_iload_n dX9_reads_64 rfl ?_
            refine jr_aload_n dX9_reads_65 rfl ?_
            refine jc_Vi (c_mtimeNow g _ hw1 (sN s 2) (by have := hmi.2; omega) (by rw [hs1]; exact hmi.1)) lkX9_111 (hw1.k rfl) rfl rfl (Nat.le_of_ble_eq_true rfl) (Nat.le_of_ble_eq_true rfl) dX9_reads_66 (fun r_66 w_66 h_66 => ?_)
            obtain ⟨rfl, rfl⟩ := h_66
            refine jc_Vi (c_strikes g _ hw1 s hs1 hG i _ (by omega) (by omega)) lkX9_115 (hw1.k rfl) rfl rfl (Nat.le_of_ble_eq_true rfl) (Nat.le_of_ble_eq_true rfl) dX9_reads_69 (fun r_69 w_69 h_69 => ?_)
            obtain ⟨rfl, hS2⟩ := h_69
            refine jr_icmp_eq 77 dX9_reads_72 (by decide) (fun c_72 => ?_) (fun c_72 => ?_)
            · refine jr_iinc_2 (nI (i + 1)) dX9_reads_77 (inc1 i) (by decide) rfl ?_
              refine jr_goto 24 dX9_reads_80 (by decide) ?_
              have hp : rdP s R3 q i = false := by
                unfold rdP
                rw [decide_eq_false_iff_not]
                first | exact fun h => h.1 c_49 | exact fun h => h.2.elim (fun z => by omega) (fun z => z c_72)
              first | exact ih (i + 1) _ _ (by omega) hS (hgo hp) | exact ih (i + 1) _ _ (by omega) (hS.tr hS2) (hgo hp)
            · refine jr_iload_n dX9_reads_75 rfl ?_
              refine jr_iret rfl dX9_reads_76 ?_
              have hp : rdP s R3 q i = true := by
                unfold rdP
                rw [decide_eq_true_eq]
                first | exact ⟨c_49, Or.inl (by omega)⟩ | exact ⟨c_49, Or.inr c_72⟩
              first | exact hQ _ _ ⟨(hfin hp).symm, MS.m hs hS⟩ | exact hQ _ _ ⟨(hfin hp).symm, MS.m hs (hS.tr hS2)⟩
    refine jr_iload_n dX9_reads_0 rfl ?_
    refine jc_Si (c_isSheet g _ _) lkX9_178 rfl rfl (Nat.le_of_ble_eq_true rfl) (Nat.le_of_ble_eq_true rfl) dX9_reads_1 (fun r_1 w_1 h_1 => ?_)
    obtain ⟨rfl, rfl⟩ := h_1
    refine jr_if_ne 10 dX9_reads_4 (by decide) (fun c_4 => ?_) (fun c_4 => absurd c_4 (jb_1.mpr hc))
    refine jr_aload_n dX9_reads_10 rfl ?_
    refine gfX9_19 82 dX9_reads_11 (hw.k rfl) (hw.f rfl) ?_
    refine jr_iload_n dX9_reads_14 rfl ?_
    refine jr_iald q (hw.k rfl) rfl ⟨hq, by decide⟩ dX9_reads_15 ?_
    rw [hR1]
    refine jr_if_ge 22 dX9_reads_16 (by decide) (fun c_16 => ?_) (fun c_16 => ?_)
    · simp only [lt_i, le_i, eq_i, Int32.reduceToInt] at c_16
      refine jr_iconst (0) dX9_reads_22 (by decide) ?_
      refine jr_istore_2 dX9_reads_23 (by decide) rfl ?_
      exact L (by omega) n 0 w none (by omega) Sm.rf (fun j hj => absurd hj (by omega))
    · simp only [lt_i, le_i, eq_i, Int32.reduceToInt] at c_16
      refine jr_ldc (-1000000011) ckX9_181 dX9_reads_19 ?_
      refine jr_iret rfl dX9_reads_21 ?_
      exact hQ _ _ ⟨by rw [F_reads, if_neg (fun h => h hc), nI_clamp (by omega), if_pos (show (R1 q).toInt < 0 by omega)], MS.rf hs⟩
  · refine jr_iload_n dX9_reads_0 rfl ?_
    refine jc_Si (c_isSheet g _ _) lkX9_178 rfl rfl (Nat.le_of_ble_eq_true rfl) (Nat.le_of_ble_eq_true rfl) dX9_reads_1 (fun r_1 w_1 h_1 => ?_)
    obtain ⟨rfl, rfl⟩ := h_1
    refine jr_if_ne 10 dX9_reads_4 (by decide) (fun c_4 => absurd (jb_f hc) c_4) (fun c_4 => ?_)
    refine jr_ldc (-1000000001) ckX9_83 dX9_reads_7 ?_
    refine jr_iret rfl dX9_reads_9 ?_
    exact hQ _ _ ⟨by rw [F_reads, if_pos hc], MS.rf hs⟩
