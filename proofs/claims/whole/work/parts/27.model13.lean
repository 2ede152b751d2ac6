-- the reference: like, the tape, copies
/-- the differences of the first k places of a sheet from totals T, from a time on -/
def dfF (T : Nat → Nat) (tn : Nat → Int32) (q t : Nat) : Nat → Int32
  | 0 => 0
  | k + 1 => dfF T tn q t k + (if tn (24 * q + k) = -1000000005 then 0 else if (tn (24 * q + k)).toInt < (nI (T ((t + k) % 720))).toInt then nI (T ((t + k) % 720)) - tn (24 * q + k) else tn (24 * q + k) - nI (T ((t + k) % 720)))
theorem c_offBy (g : Cx) (w : Wd) (hw : Wf w) (R2 R3 : Nat → Int32) (hR2 : wI w 83 = R2) (hR3 : wI w 84 = R3) (q n : Nat) (hq : q < 4) (hn : n ≤ 24) (en : R2 q = nI n) (T : Nat → Nat) (hA : AllR (wI w 90) T) (t : Nat) (ht : t < 720) : CI g yX9_offBy cX9_offBy 6 (some .int) 2 0 0 [.ref (gb g + 78), .int (nI q), .int (nI t)] w (fun r w' => r = dfF T R3 q t n ∧ w = w') := by
  refine CI.of (own := RX9) (nm := "offBy") (lv := [some (.ref (gb g + 78)), some (.int (nI q)), some (.int (nI t)), none, none, none]) (by decide) rfl rfl (Nat.le_of_ble_eq_true rfl) rfl (fun Q hQ => ?_)
  have L : ∀ (f k : Nat) (a5 : Option Value), f + k = n → RR g RX9 cX9_offBy 6 (some .int) "offBy" 2 0 0 0 0 5 [some (.ref (gb g + 78)), some (.int (nI q)), some (.int (nI t)), some (.int (dfF T R3 q t k)), some (.int (nI k)), a5] [] w Q := by
    intro f
    induction f with
    | zero =>
      intro k a5 hk
      have e : k = n := by omega
      subst e
      refine jr_iload dX9_offBy_5 rfl ?_
      refine jr_aload_n dX9_offBy_7 rfl ?_
      refine gfX9_22 83 dX9_offBy_8 (hw.k rfl) (hw.f rfl) ?_
      refine jr_iload_n dX9_offBy_11 rfl ?_
      refine jr_iald q (hw.k rfl) rfl ⟨hq, by decide⟩ dX9_offBy_12 ?_
      rw [hR2, en]
      refine jr_icmp_ge 68 dX9_offBy_13 (by decide) (fun c_13 => ?_) (fun c_13 => absurd (Int32.le_refl _) c_13)
      refine jr_iload_n dX9_offBy_68 rfl ?_
      refine jr_iret rfl dX9_offBy_69 ?_
      exact hQ _ _ ⟨rfl, rfl⟩
    | succ f ih =>
      intro k a5 hk
      have h9 := ih (k + 1) (some (.int (R3 (24 * q + k)))) (by omega)
      have hx : nI t + nI k - (nI t + nI k) / 720 * 720 = nI ((t + k) % 720) := by
        rw [nI_add, jlit 720, pk_rem (by omega) (by decide) (by decide)]
      have hlt : (t + k) % 720 < 720 := Nat.mod_lt _ (by decide)
      simp only [dfF] at h9
      refine jr_iload dX9_offBy_5 rfl ?_
      refine jr_aload_n dX9_offBy_7 rfl ?_
      refine gfX9_22 83 dX9_offBy_8 (hw.k rfl) (hw.f rfl) ?_
      refine jr_iload_n dX9_offBy_11 rfl ?_
      refine jr_iald q (hw.k rfl) rfl ⟨hq, by decide⟩ dX9_offBy_12 ?_
      rw [hR2, en]
      refine jr_icmp_ge 68 dX9_offBy_13 (by decide) (fun c_13 => absurd c_13 (nI_ge (by omega) (by omega))) (fun c_13 => ?_)
      refine jr_aload_n dX9_offBy_16 rfl ?_
      refine gfX9_25 84 dX9_offBy_17 (hw.k rfl) (hw.f rfl) ?_
      refine jr_bipush (24) dX9_offBy_20 (by decide) ?_
      refine jr_iload_n dX9_offBy_22 rfl ?_
      refine jr_imul dX9_offBy_23 ?_
      refine jr_iload dX9_offBy_24 rfl ?_
      refine jr_iadd dX9_offBy_26 ?_
      refine jr_iald (24 * q + k) (hw.k rfl) (by rw [jlit 24, pk_mul, nI_add]) ⟨by omega, by decide⟩ dX9_offBy_27 ?_
      rw [hR3]
      refine jr_istore_5 dX9_offBy_28 (by decide) rfl ?_
      refine jr_iload_n dX9_offBy_30 rfl ?_
      refine jr_iload dX9_offBy_31 rfl ?_
      refine jr_ldc (-1000000005) ckX9_67 dX9_offBy_33 ?_
      refine jr_icmp_ne 42 dX9_offBy_35 (by decide) (fun c_35 => ?_) (fun c_35 => ?_)
      · refine jr_iload dX9_offBy_42 rfl ?_
        refine jr_aload_n dX9_offBy_44 rfl ?_
        refine gfX9_43 90 dX9_offBy_45 (hw.k rfl) (hw.f rfl) ?_
        refine jr_iload_n dX9_offBy_48 rfl ?_
        refine jr_iload dX9_offBy_49 rfl ?_
        refine jr_iadd dX9_offBy_51 ?_
        refine jr_sipush (720) dX9_offBy_52 (by decide) ?_
        refine jr_irem dX9_offBy_55 (by decide) ?_
        refine jr_iald ((t + k) % 720) (hw.k rfl) hx ⟨hlt, by decide⟩ dX9_offBy_56 ?_
        rw [hA _ hlt]
        refine jc_Si (c_off g _ _ _) lkX9_175 rfl rfl (Nat.le_of_ble_eq_true rfl) (Nat.le_of_ble_eq_true rfl) dX9_offBy_57 (fun r_57 w_57 h_57 => ?_)
        obtain ⟨rfl, rfl⟩ := h_57
        refine jr_iadd dX9_offBy_60 ?_
        refine jr_istore_3 dX9_offBy_61 (by decide) rfl ?_
        refine jr_iinc_4 (nI (k + 1)) dX9_offBy_62 (inc1 k) (by decide) rfl ?_
        refine jr_goto 5 dX9_offBy_65 (by decide) ?_
        first | (rw [if_pos c_35] at h9; exact h9) | (rw [if_neg c_35] at h9; exact h9)
      · refine jr_iconst (0) dX9_offBy_38 (by decide) ?_
        refine jr_goto 60 dX9_offBy_39 (by decide) ?_
        refine jr_iadd dX9_offBy_60 ?_
        refine jr_istore_3 dX9_offBy_61 (by decide) rfl ?_
        refine jr_iinc_4 (nI (k + 1)) dX9_offBy_62 (inc1 k) (by decide) rfl ?_
        refine jr_goto 5 dX9_offBy_65 (by decide) ?_
        first | (rw [if_pos c_35] at h9; exact h9) | (rw [if_neg c_35] at h9; exact h9)
  refine jr_iconst (0) dX9_offBy_0 (by decide) ?_
  refine jr_istore_3 dX9_offBy_1 (by decide) rfl ?_
  refine jr_iconst (0) dX9_offBy_2 (by decide) ?_
  refine jr_istore_4 dX9_offBy_3 (by decide) rfl ?_
  exact L n 0 none (by omega)
/-- of the times 0 .. n the one that differs least, and by how much -/
def lkF (d : Nat → Int32) : Nat → Nat × Int32
  | 0 => (0, d 0)
  | t + 1 => if (d (t + 1)).toInt < (lkF d t).2.toInt then (t + 1, d (t + 1)) else lkF d t
def F_like (R : Sh) (s : Nat → Int32) (k x : Int32) : Int32 :=
  if isS k ∧ inR x 0 1 then (if (R.1 k.toNatClampNeg).toInt < 0 then -1000000011 else if x.toInt = 0 then nI (lkF (fun t => dfF (totT s) R.2.2 k.toNatClampNeg t (sN R.2.1 k.toNatClampNeg)) 719).1 else (lkF (fun t => dfF (totT s) R.2.2 k.toNatClampNeg t (sN R.2.1 k.toNatClampNeg)) 719).2) else -1000000001
theorem m_like (g : Cx) (w : Wd) (hw : Wf w) (s : Nat → Int32) (hs : wI w 79 = s) (hG : Gd s) (R : Sh) (hR : wI w 82 = R.1 ∧ wI w 83 = R.2.1 ∧ wI w 84 = R.2.2) (hO : ShOk R) (k x : Int32) : CI g yX9_like cX9_like 7 (some .int) 7 0 0 [.ref (gb g + 78), .int k, .int x] w (fun r w' => r = F_like R s k x ∧ MS w w' s) := by
  obtain ⟨R1, R2, R3⟩ := R
  simp only at hR
  obtain ⟨hR1, hR2, hR3⟩ := hR
  refine CI.of (own := RX9) (nm := "like") (lv := [some (.ref (gb g + 78)), some (.int k), some (.int x), none, none, none, none]) (by decide) rfl rfl (Nat.le_of_ble_eq_true rfl) rfl (fun Q hQ => ?_)
  by_cases hc : isS k
  · obtain ⟨q, hq, ek⟩ := i_of (n := 4) hc.1 hc.2
    subst ek
    obtain ⟨-, n, hn, en⟩ := hO q hq
    simp only at en
    have esz : sN R2 q = n := sN_of en (by omega)
    have e0 : inR x 0 1 → ¬ (R1 q).toInt < 0 → F_like (R1, R2, R3) s (nI q) x = if x.toInt = 0 then nI (lkF (fun t => dfF (totT s) R3 q t n) 719).1 else (lkF (fun t => dfF (totT s) R3 q t n) 719).2 := fun h1 h2 => by
      rw [F_like, if_pos ⟨hc, h1⟩, nI_clamp (by omega), if_neg h2, esz]
    have L : inR x 0 1 → ¬ (R1 q).toInt < 0 → ∀ (w1 : Wd), Sm scA w w1 → AllR (wI w1 90) (totT s) → ∀ (f t : Nat) (a6 : Option Value), f + t = 719 → RR g RX9 cX9_like 7 (some .int) "like" 7 0 0 0 0 49 [some (.ref (gb g + 78)), some (.int (nI q)), some (.int x), some (.int (nI (lkF (fun t => dfF (totT s) R3 q t n) t).1)), some (.int (lkF (fun t => dfF (totT s) R3 q t n) t).2), some (.int (nI (t + 1))), a6] [] w1 Q := by
      intro hx hso w1 hS hA f
      have hw1 := hS.wf hw
      induction f with
      | zero =>
        intro t a6 ht
        have e : t = 719 := by omega
        subst e
        refine jr_iload dX9_like_49 rfl ?_
        refine jr_sipush (720) dX9_like_51 (by decide) ?_
        refine jr_icmp_ge 102 dX9_like_54 (by decide) (fun c_54 => ?_) (fun c_54 => absurd (by decide) c_54)
        refine jr_iload_n dX9_like_102 rfl ?_
        refine jr_if_ne 110 dX9_like_103 (by decide) (fun c_103 => ?_) (fun c_103 => ?_)
        · simp only [lt_i, le_i, eq_i, Int32.reduceToInt] at c_103
          refine jr_iload dX9_like_110 rfl ?_
          refine jr_iret rfl dX9_like_112 ?_
          refine hQ _ _ ⟨?_, MS.a hs hS⟩
          rw [e0 hx hso]
          first | rw [if_pos (by omega)] | rw [if_neg (by omega)]
        · simp only [lt_i, le_i, eq_i, Int32.reduceToInt] at c_103
          refine jr_iload_n dX9_like_106 rfl ?_
          refine jr_goto 112 dX9_like_107 (by decide) ?_
          refine jr_iret rfl dX9_like_112 ?_
          refine hQ _ _ ⟨?_, MS.a hs hS⟩
          rw [e0 hx hso]
          first | rw [if_pos (by omega)] | rw [if_neg (by omega)]
      | succ f ih =>
        intro t a6 ht
        have h9 := ih (t + 1) (some (.int (dfF (totT s) R3 q (t + 1) n))) (by omega)
        have hlk : lkF (fun t => dfF (totT s) R3 q t n) (t + 1) = if (dfF (totT s) R3 q (t + 1) n).toInt < (lkF (fun t => dfF (totT s) R3 q t n) t).2.toInt then (t + 1, dfF (totT s) R3 q (t + 1) n) else lkF (fun t => dfF (totT s) R3 q t n) t := rfl
        refine jr_iload dX9_like_49 rfl ?_
        refine jr_sipush (720) dX9_like_51 (by decide) ?_
        refine jr_icmp_ge 102 dX9_like_54 (by decide) (fun c_54 => absurd c_54 (nI_ge (b := 720) (by omega) (by omega))) (fun c_54 => ?_)
        refine jr_aload_n dX9_like_57 rfl ?_
        refine jr_iload_n dX9_like_58 rfl ?_
        refine jr_iload dX9_like_59 rfl ?_
        refine jc_Vi (c_offBy g _ hw1 R2 R3 ((hS.row (scA_n (by decide))).trans hR2) ((hS.row (scA_n (by decide))).trans hR3) q n hq hn en _ hA (t + 1) (by omega)) lkX9_182 (hw1.k rfl) rfl rfl (Nat.le_of_ble_eq_true rfl) (Nat.le_of_ble_eq_true rfl) dX9_like_61 (fun r_61 w_61 h_61 => ?_)
        obtain ⟨rfl, rfl⟩ := h_61
        refine jr_istore_6 dX9_like_64 (by decide) rfl ?_
        refine jr_iload dX9_like_66 rfl ?_
        refine jr_iload dX9_like_68 rfl ?_
        refine jr_icmp_ge 78 dX9_like_70 (by decide) (fun c_70 => ?_) (fun c_70 => ?_)
        · simp only [lt_i, le_i, eq_i, Int32.reduceToInt] at c_70
          rw [if_neg (by omega)] at hlk
          refine jr_iload_n dX9_like_78 rfl ?_
          refine jr_istore_3 dX9_like_79 (by decide) rfl ?_
          refine jr_iload dX9_like_80 rfl ?_
          refine jr_iload dX9_like_82 rfl ?_
          refine jr_icmp_ge 92 dX9_like_84 (by decide) (fun c_84 => ?_) (fun c_84 => ?_)
          · simp only [lt_i, le_i, eq_i, Int32.reduceToInt] at c_84
            refine jr_iload dX9_like_92 rfl ?_
            refine jr_istore_4 dX9_like_94 (by decide) rfl ?_
            refine jr_iinc_5 (nI (t + 1 + 1)) dX9_like_96 (inc1 _) (by decide) rfl ?_
            refine jr_goto 49 dX9_like_99 (by decide) ?_
            first | (rw [hlk] at h9; exact h9) | (exfalso; exact c_84 c_70) | (exfalso; exact c_70 c_84)
          · simp only [lt_i, le_i, eq_i, Int32.reduceToInt] at c_84
            refine jr_iload dX9_like_87 rfl ?_
            refine jr_goto 94 dX9_like_89 (by decide) ?_
            refine jr_istore_4 dX9_like_94 (by decide) rfl ?_
            refine jr_iinc_5 (nI (t + 1 + 1)) dX9_like_96 (inc1 _) (by decide) rfl ?_
            refine jr_goto 49 dX9_like_99 (by decide) ?_
            first | (rw [hlk] at h9; exact h9) | (exfalso; exact c_84 c_70) | (exfalso; exact c_70 c_84)
        · simp only [lt_i, le_i, eq_i, Int32.reduceToInt] at c_70
          rw [if_pos (by omega)] at hlk
          refine jr_iload dX9_like_73 rfl ?_
          refine jr_goto 79 dX9_like_75 (by decide) ?_
          refine jr_istore_3 dX9_like_79 (by decide) rfl ?_
          refine jr_iload dX9_like_80 rfl ?_
          refine jr_iload dX9_like_82 rfl ?_
          refine jr_icmp_ge 92 dX9_like_84 (by decide) (fun c_84 => ?_) (fun c_84 => ?_)
          · simp only [lt_i, le_i, eq_i, Int32.reduceToInt] at c_84
            refine jr_iload dX9_like_92 rfl ?_
            refine jr_istore_4 dX9_like_94 (by decide) rfl ?_
            refine jr_iinc_5 (nI (t + 1 + 1)) dX9_like_96 (inc1 _) (by decide) rfl ?_
            refine jr_goto 49 dX9_like_99 (by decide) ?_
            first | (rw [hlk] at h9; exact h9) | (exfalso; exact c_84 c_70) | (exfalso; exact c_70 c_84)
          · simp only [lt_i, le_i, eq_i, Int32.reduceToInt] at c_84
            refine jr_iload dX9_like_87 rfl ?_
            refine jr_goto 94 dX9_like_89 (by decide) ?_
            refine jr_istore_4 dX9_like_94 (by decide) rfl ?_
            refine jr_iinc_5 (nI (t + 1 + 1)) dX9_like_96 (inc1 _) (by decide) rfl ?_
            refine jr_goto 49 dX9_like_99 (by decide) ?_
            first | (rw [hlk] at h9; exact h9) | (exfalso; exact c_84 c_70) | (exfalso; exact c_70 c_84)
    refine jr_iload_n dX9_like_0 rfl ?_
    refine jc_Si (c_isSheet g _ _) lkX9_178 rfl rfl (Nat.le_of_ble_eq_true rfl) (Nat.le_of_ble_eq_true rfl) dX9_like_1 (fun r_1 w_1 h_1 => ?_)
    obtain ⟨rfl, rfl⟩ := h_1
    refine jr_if_eq 17 dX9_like_4 (by decide) (fun c_4 => absurd c_4 (jb_1.mpr hc)) (fun c_4 => ?_)
    refine jr_iload_n dX9_like_7 rfl ?_
    refine jr_i2l dX9_like_8 ?_
    refine jr_lconst 0 dX9_like_9 (by decide) ?_
    refine jr_lconst 1 dX9_like_10 (by decide) ?_
    refine jc_Si (c_isInI g _ _ _ _) lkX9_68 rfl rfl (Nat.le_of_ble_eq_true rfl) (Nat.le_of_ble_eq_true rfl) dX9_like_11 (fun r_11 w_11 h_11 => ?_)
    obtain ⟨rfl, rfl⟩ := h_11
    refine jr_if_ne 20 dX9_like_14 (by decide) (fun c_14 => ?_) (fun c_14 => ?_)
    · rw [jb_1] at c_14
      simp only [Int64.reduceToInt] at c_14
      refine jr_aload_n dX9_like_20 rfl ?_
      refine gfX9_19 82 dX9_like_21 (hw.k rfl) (hw.f rfl) ?_
      refine jr_iload_n dX9_like_24 rfl ?_
      refine jr_iald q (hw.k rfl) rfl ⟨hq, by decide⟩ dX9_like_25 ?_
      rw [hR1]
      refine jr_if_ge 32 dX9_like_26 (by decide) (fun c_26 => ?_) (fun c_26 => ?_)
      · simp only [lt_i, le_i, eq_i, Int32.reduceToInt] at c_26
        refine jr_aload_n dX9_like_32 rfl ?_
        refine jc_Vv (c_findAll g _ hw s hs hG) lkX9_161 (hw.k rfl) rfl rfl (Nat.le_of_ble_eq_true rfl) (Nat.le_of_ble_eq_true rfl) dX9_like_33 (fun w_33 h_33 => ?_)
        obtain ⟨hA, hS⟩ := h_33
        refine jr_iconst (0) dX9_like_36 (by decide) ?_
        refine jr_istore_3 dX9_like_37 (by decide) rfl ?_
        refine jr_aload_n dX9_like_38 rfl ?_
        refine jr_iload_n dX9_like_39 rfl ?_
        refine jr_iconst (0) dX9_like_40 (by decide) ?_
        refine jc_Vi (c_offBy g _ (hS.wf hw) R2 R3 ((hS.row (scA_n (by decide))).trans hR2) ((hS.row (scA_n (by decide))).trans hR3) q n hq hn en (totT s) hA 0 (by omega)) lkX9_182 ((hS.wf hw).k rfl) rfl rfl (Nat.le_of_ble_eq_true rfl) (Nat.le_of_ble_eq_true rfl) dX9_like_41 (fun r_41 w_41 h_41 => ?_)
        obtain ⟨rfl, rfl⟩ := h_41
        refine jr_istore_4 dX9_like_44 (by decide) rfl ?_
        refine jr_iconst (1) dX9_like_46 (by decide) ?_
        refine jr_istore_5 dX9_like_47 (by decide) rfl ?_
        exact L c_14 (by omega) _ hS hA 719 0 none rfl
      · simp only [lt_i, le_i, eq_i, Int32.reduceToInt] at c_26
        refine jr_ldc (-1000000011) ckX9_181 dX9_like_29 ?_
        refine jr_iret rfl dX9_like_31 ?_
        exact hQ _ _ ⟨by rw [F_like, if_pos ⟨hc, c_14⟩, nI_clamp (by omega), if_pos (show (R1 q).toInt < 0 by omega)], MS.rf hs⟩
    · rw [jb_0] at c_14
      simp only [Int64.reduceToInt] at c_14
      refine jr_ldc (-1000000001) ckX9_83 dX9_like_17 ?_
      refine jr_iret rfl dX9_like_19 ?_
      exact hQ _ _ ⟨by rw [F_like, if_neg (fun h => c_14 h.2)], MS.rf hs⟩
  · refine jr_iload_n dX9_like_0 rfl ?_
    refine jc_Si (c_isSheet g _ _) lkX9_178 rfl rfl (Nat.le_of_ble_eq_true rfl) (Nat.le_of_ble_eq_true rfl) dX9_like_1 (fun r_1 w_1 h_1 => ?_)
    obtain ⟨rfl, rfl⟩ := h_1
    refine jr_if_eq 17 dX9_like_4 (by decide) (fun c_4 => ?_) (fun c_4 => absurd (jb_f hc) c_4)
    refine jr_ldc (-1000000001) ckX9_83 dX9_like_17 ?_
    refine jr_iret rfl dX9_like_19 ?_
    exact hQ _ _ ⟨by rw [F_like, if_neg (fun h => hc h.1)], MS.rf hs⟩
/-- the k-th of twelve bytes -/
def byF (a b c : Int32) (k : Nat) : Int32 := ((if k < 4 then a else if k < 8 then b else c) >>> ((24 - 8 * nI (k % 4)) &&& 31)) &&& 255
def fdR (f : Nat → Int32) (n : Nat) (a b c : Int32) (m : Nat) : Nat → Int32 := fun j => if n ≤ j ∧ j < n + m then byF a b c (j - n) else f j
theorem m_feed (g : Cx) (w : Wd) (hw : Wf w) (n : Nat) (hn : n ≤ 96) (h0 : wI w 78 15 = nI n) (a b c : Int32) : CI g yX9_feed cX9_feed 6 (some .int) 1 0 0 [.ref (gb g + 78), .int a, .int b, .int c] w (fun r w' => (84 < n ∧ r = -1000000003 ∧ w = w') ∨ (n ≤ 84 ∧ r = nI (n + 12) ∧ w' = sR (sR w 92 (fdR (wI w 92) n a b c 12)) 78 (upd (wI w 78) 15 (nI (n + 12))))) := by
  refine CI.of (own := RX9) (nm := "feed") (lv := [some (.ref (gb g + 78)), some (.int a), some (.int b), some (.int c), none, none]) (by decide) rfl rfl (Nat.le_of_ble_eq_true rfl) rfl (fun Q hQ => ?_)
  have en := i_nI (n := n + 12) (by omega)
  have hfd : ∀ m, upd (fdR (wI w 92) n a b c m) (n + m) (byF a b c m) = fdR (wI w 92) n a b c (m + 1) := by
    intro m
    funext j
    unfold fdR
    by_cases e : j = n + m
    · rw [e, pk_us, if_pos (by omega), show n + m - n = m by omega]
    · rw [pk_un e]
      by_cases h : n ≤ j ∧ j < n + m
      · rw [if_pos h, if_pos (by omega)]
      · rw [if_neg h, if_neg (by omega)]
  have L : n ≤ 84 → ∀ (f m : Nat) (a5 : Option Value), f + m = 12 → RR g RX9 cX9_feed 6 (some .int) "feed" 1 0 0 0 0 18 [some (.ref (gb g + 78)), some (.int a), some (.int b), some (.int c), some (.int (nI m)), a5] [] (sR (sR w 92 (fdR (wI w 92) n a b c m)) 78 (upd (wI w 78) 15 (nI (n + m)))) Q := by
    intro hle f
    induction f with
    | zero =>
      intro m a5 hm
      have e : m = 12 := by omega
      subst e
      refine jr_iload dX9_feed_18 rfl ?_
      refine jr_bipush (12) dX9_feed_20 (by decide) ?_
      refine jr_icmp_ge 91 dX9_feed_22 (by decide) (fun c_22 => ?_) (fun c_22 => absurd (by decide) c_22)
      refine jr_aload_n dX9_feed_91 rfl ?_
      refine gfX9_191 dX9_feed_92 (hw.k rfl) ?_
      refine jr_iret rfl dX9_feed_95 ?_
      exact hQ _ _ (Or.inr ⟨hle, by rw [wI_sR_s, pk_us], rfl⟩)
    | succ f ih =>
      intro m a5 hm
      have em := i_nI (n := m) (by omega)
      have hm4 : nI m - nI m / 4 * 4 = nI (m % 4) := pk_rem (by omega) (by decide) (by decide)
      have K : RR g RX9 cX9_feed 6 (some .int) "feed" 1 0 0 0 0 47 [some (.ref (gb g + 78)), some (.int a), some (.int b), some (.int c), some (.int (nI m)), a5] [.int (if m < 4 then a else if m < 8 then b else c)] (sR (sR w 92 (fdR (wI w 92) n a b c m)) 78 (upd (wI w 78) 15 (nI (n + m)))) Q := by
        refine jr_istore_5 dX9_feed_47 (by decide) rfl ?_
        refine jr_aload_n dX9_feed_49 rfl ?_
        refine gfX9_49 92 dX9_feed_50 (hw.k rfl) (hw.f rfl) ?_
        refine jr_aload_n dX9_feed_53 rfl ?_
        refine gfX9_191 dX9_feed_54 (hw.k rfl) ?_
        rw [wI_sR_s, pk_us]
        refine jr_iload dX9_feed_57 rfl ?_
        refine jr_bipush (24) dX9_feed_59 (by decide) ?_
        refine jr_bipush (8) dX9_feed_61 (by decide) ?_
        refine jr_iload dX9_feed_63 rfl ?_
        refine jr_iconst (4) dX9_feed_65 (by decide) ?_
        refine jr_irem dX9_feed_66 (by decide) ?_
        rw [hm4]
        refine jr_imul dX9_feed_67 ?_
        refine jr_isub dX9_feed_68 ?_
        refine jr_ishr dX9_feed_69 ?_
        refine jr_sipush (255) dX9_feed_70 (by decide) ?_
        refine jr_iand dX9_feed_73 ?_
        refine jr_iast (n + m) (hw.k rfl) rfl ⟨by omega, by decide⟩ dX9_feed_74 ?_
        refine jr_aload_n dX9_feed_75 rfl ?_
        refine jr_dup dX9_feed_76 rfl ?_
        refine gfX9_191 dX9_feed_77 (hw.k rfl) ?_
        refine jr_iconst (1) dX9_feed_80 (by decide) ?_
        refine jr_iadd dX9_feed_81 ?_
        rw [wI_sR_n _ (show 78 ≠ 92 by decide), wI_sR_s, pk_us, nI_1]
        refine pfX9_191 dX9_feed_82 (hw.k rfl) ?_
        refine jr_iinc_4 (nI (m + 1)) dX9_feed_85 (inc1 m) (by decide) rfl ?_
        refine jr_goto 18 dX9_feed_88 (by decide) ?_
        have h9 := ih (m + 1) (some (.int (if m < 4 then a else if m < 8 then b else c))) (by omega)
        rw [← hfd m] at h9
        have ew : sR (sR w 92 (upd (fdR (wI w 92) n a b c m) (n + m) (byF a b c m))) 78 (upd (wI w 78) 15 (nI (n + (m + 1)))) = sR (sR (sR (sR w 92 (fdR (wI w 92) n a b c m)) 78 (upd (wI w 78) 15 (nI (n + m)))) 92 (upd (wI (sR (sR w 92 (fdR (wI w 92) n a b c m)) 78 (upd (wI w 78) 15 (nI (n + m)))) 92) (n + m) (byF a b c m))) 78 (upd (wI (sR (sR (sR w 92 (fdR (wI w 92) n a b c m)) 78 (upd (wI w 78) 15 (nI (n + m)))) 92 (upd (wI (sR (sR w 92 (fdR (wI w 92) n a b c m)) 78 (upd (wI w 78) 15 (nI (n + m)))) 92) (n + m) (byF a b c m))) 78) 15 (nI (n + m + 1))) := by
          simp only [wI_sR_s, wI_sR_n _ (show 92 ≠ 78 by decide), wI_sR_n _ (show 78 ≠ 92 by decide), upd_uu]
          rw [sR4 w (show (92 : Nat) ≠ 78 by decide)]
          rfl
        rw [ew] at h9
        exact h9
      refine jr_iload dX9_feed_18 rfl ?_
      refine jr_bipush (12) dX9_feed_20 (by decide) ?_
      refine jr_icmp_ge 91 dX9_feed_22 (by decide) (fun c_22 => absurd c_22 (nI_ge (b := 12) (by omega) (by omega))) (fun c_22 => ?_)
      refine jr_iload dX9_feed_25 rfl ?_
      refine jr_iconst (4) dX9_feed_27 (by decide) ?_
      refine jr_icmp_ge 35 dX9_feed_28 (by decide) (fun c_28 => ?_) (fun c_28 => ?_)
      · simp only [lt_i, le_i, eq_i, Int32.reduceToInt] at c_28
        refine jr_iload dX9_feed_35 rfl ?_
        refine jr_bipush (8) dX9_feed_37 (by decide) ?_
        refine jr_icmp_ge 46 dX9_feed_39 (by decide) (fun c_39 => ?_) (fun c_39 => ?_)
        · simp only [lt_i, le_i, eq_i, Int32.reduceToInt] at c_39
          refine jr_iload_n dX9_feed_46 rfl ?_
          first | (rw [if_pos (by omega)] at K; exact K) | (rw [if_neg (by omega), if_pos (by omega)] at K; exact K) | (rw [if_neg (by omega), if_neg (by omega)] at K; exact K)
        · simp only [lt_i, le_i, eq_i, Int32.reduceToInt] at c_39
          refine jr_iload_n dX9_feed_42 rfl ?_
          refine jr_goto 47 dX9_feed_43 (by decide) ?_
          first | (rw [if_pos (by omega)] at K; exact K) | (rw [if_neg (by omega), if_pos (by omega)] at K; exact K) | (rw [if_neg (by omega), if_neg (by omega)] at K; exact K)
      · simp only [lt_i, le_i, eq_i, Int32.reduceToInt] at c_28
        refine jr_iload_n dX9_feed_31 rfl ?_
        refine jr_goto 47 dX9_feed_32 (by decide) ?_
        first | (rw [if_pos (by omega)] at K; exact K) | (rw [if_neg (by omega), if_pos (by omega)] at K; exact K) | (rw [if_neg (by omega), if_neg (by omega)] at K; exact K)
  refine jr_aload_n dX9_feed_0 rfl ?_
  refine gfX9_191 dX9_feed_1 (hw.k rfl) ?_
  refine jr_bipush (12) dX9_feed_4 (by decide) ?_
  refine jr_iadd dX9_feed_6 ?_
  rw [h0, jlit 12, nI_add]
  refine jr_bipush (96) dX9_feed_7 (by decide) ?_
  refine jr_icmp_le 15 dX9_feed_9 (by decide) (fun c_9 => ?_) (fun c_9 => ?_)
  · simp only [lt_i, le_i, eq_i, Int32.reduceToInt] at c_9
    refine jr_iconst (0) dX9_feed_15 (by decide) ?_
    refine jr_istore_4 dX9_feed_16 (by decide) rfl ?_
    have h9 := L (by omega) 12 0 none rfl
    have e1 : fdR (wI w 92) n a b c 0 = wI w 92 := by funext j; unfold fdR; rw [if_neg (by omega)]
    have e2 : upd (wI w 78) 15 (nI (n + 0)) = wI w 78 := by rw [Nat.add_zero, ← h0, upd_id]
    rw [e1, e2, sR_id, sR_id] at h9
    exact h9
  · simp only [lt_i, le_i, eq_i, Int32.reduceToInt] at c_9
    refine jr_ldc (-1000000003) ckX9_84 dX9_feed_12 ?_
    refine jr_iret rfl dX9_feed_14 ?_
    exact hQ _ _ (Or.inl ⟨by omega, rfl, rfl⟩)
