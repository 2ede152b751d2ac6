-- the reference: copies, slots
theorem l_add (x y : Int32) : (x.toInt64 + y.toInt64).toInt = x.toInt + y.toInt := by
  have h1 := i_rng x
  have h2 := i_rng y
  rw [Int64.toInt_add, l_of_i, l_of_i]
  exact Int.bmod_eq_of_le (by omega) (by omega)
def F_copy (R : Sh) (a p b t m : Int32) : Int32 × Sh :=
  if ¬ (isS a ∧ isS b) then (-1000000001, R)
  else if (R.1 a.toNatClampNeg).toInt < 0 ∨ (R.1 b.toNatClampNeg).toInt < 0 then (-1000000011, R)
  else if ¬ (R.1 a.toNatClampNeg).toInt = (R.1 b.toNatClampNeg).toInt then (-1000000012, R)
  else if p.toInt < 0 ∨ t.toInt < 0 ∨ m.toInt < 0 ∨ (R.2.1 a.toNatClampNeg).toInt < p.toInt + m.toInt ∨ (R.2.1 b.toNatClampNeg).toInt < t.toInt + m.toInt then (-1000000013, R)
  else (m, (R.1, R.2.1, va_cpy R.2.2 R.2.2 (24 * a.toNatClampNeg + p.toNatClampNeg) (24 * b.toNatClampNeg + t.toNatClampNeg) m.toNatClampNeg))
theorem m_copy (g : Cx) (w : Wd) (hw : Wf w) (R : Sh) (hR : wI w 82 = R.1 ∧ wI w 83 = R.2.1 ∧ wI w 84 = R.2.2) (hO : ShOk R) (a p b t m : Int32) : CI g yX9_copy cX9_copy 7 (some .int) 3 0 0 [.ref (gb g + 78), .int a, .int p, .int b, .int t, .int m] w (fun r w' => r = (F_copy R a p b t m).1 ∧ MH w w' (F_copy R a p b t m).2) := by
  obtain ⟨R1, R2, R3⟩ := R
  simp only at hR
  obtain ⟨hR1, hR2, hR3⟩ := hR
  refine CI.of (own := RX9) (nm := "copy") (lv := [some (.ref (gb g + 78)), some (.int a), some (.int p), some (.int b), some (.int t), some (.int m), none]) (by decide) rfl rfl (Nat.le_of_ble_eq_true rfl) rfl (fun Q hQ => ?_)
  by_cases hc : isS a ∧ isS b
  · obtain ⟨q, hq, ea⟩ := i_of (n := 4) hc.1.1 hc.1.2
    obtain ⟨u, hu, eb⟩ := i_of (n := 4) hc.2.1 hc.2.2
    subst ea
    subst eb
    obtain ⟨-, n, hn, en⟩ := hO q hq
    obtain ⟨-, n2, hn2, en2⟩ := hO u hu
    simp only at en en2
    have eni := i_nI (n := n) (by omega)
    have eni2 := i_nI (n := n2) (by omega)
    have e0 : F_copy (R1, R2, R3) (nI q) p (nI u) t m = if (R1 q).toInt < 0 ∨ (R1 u).toInt < 0 then (-1000000011, (R1, R2, R3))
      else if ¬ (R1 q).toInt = (R1 u).toInt then (-1000000012, (R1, R2, R3))
      else if p.toInt < 0 ∨ t.toInt < 0 ∨ m.toInt < 0 ∨ (n : Int) < p.toInt + m.toInt ∨ (n2 : Int) < t.toInt + m.toInt then (-1000000013, (R1, R2, R3))
      else (m, (R1, R2, va_cpy R3 R3 (24 * q + p.toNatClampNeg) (24 * u + t.toNatClampNeg) m.toNatClampNeg)) := by
      rw [F_copy, if_neg (fun h => h hc), nI_clamp (by omega), nI_clamp (by omega)]
      simp only [en, en2, eni, eni2]
    have L : ¬ ((R1 q).toInt < 0 ∨ (R1 u).toInt < 0) → (R1 q).toInt = (R1 u).toInt → ∀ (y z l : Nat), p = nI y → t = nI z → m = nI l → y + l ≤ n → z + l ≤ n2 → ∀ (f k : Nat) (w1 : Wd), f + k = l → (∀ j, j < l → wI w1 95 j = R3 (24 * q + y + j)) → (∀ j, wI w1 84 j = if 24 * u + z ≤ j ∧ j < 24 * u + z + k then R3 (24 * q + y + (j - (24 * u + z))) else R3 j) → Sm scH w w1 → wI w1 82 = R1 → wI w1 83 = R2 → RR g RX9 cX9_copy 7 (some .int) "copy" 3 0 0 0 0 149 [some (.ref (gb g + 78)), some (.int (nI q)), some (.int p), some (.int (nI u)), some (.int t), some (.int m), some (.int (nI k))] [] w1 Q := by
      intro hso hso2 y z l ep et em hyl hzl f
      subst ep
      subst et
      subst em
      have ey := i_nI (n := y) (by omega)
      have ez := i_nI (n := z) (by omega)
      have el := i_nI (n := l) (by omega)
      induction f with
      | zero =>
        intro k w1 hk hcar htn hS h82 h83
        have e : k = l := by omega
        subst e
        have hw1 := hS.wf hw
        refine jr_iload dX9_copy_149 rfl ?_
        refine jr_iload dX9_copy_151 rfl ?_
        refine jr_icmp_ge 184 dX9_copy_153 (by decide) (fun c_153 => ?_) (fun c_153 => absurd (Int32.le_refl _) c_153)
        refine jr_iload dX9_copy_184 rfl ?_
        refine jr_iret rfl dX9_copy_186 ?_
        refine hQ _ _ (finH (R := (R1, R2, va_cpy R3 R3 (24 * q + y) (24 * u + z) k)) ?_ ⟨h82, h83, ?_, hS⟩)
        · rw [e0, if_neg hso, if_neg (fun h => h hso2), if_neg (by omega), nI_clamp (by omega), nI_clamp (by omega), nI_clamp (by omega)]
        · funext j
          rw [htn j]
          rfl
      | succ f ih =>
        intro k w1 hk hcar htn hS h82 h83
        have hw1 := hS.wf hw
        refine jr_iload dX9_copy_149 rfl ?_
        refine jr_iload dX9_copy_151 rfl ?_
        refine jr_icmp_ge 184 dX9_copy_153 (by decide) (fun c_153 => absurd c_153 (nI_ge (by omega) (by omega))) (fun c_153 => ?_)
        refine jr_aload_n dX9_copy_156 rfl ?_
        refine gfX9_25 84 dX9_copy_157 (hw1.k rfl) (hw1.f rfl) ?_
        refine jr_bipush (24) dX9_copy_160 (by decide) ?_
        refine jr_iload_n dX9_copy_162 rfl ?_
        refine jr_imul dX9_copy_163 ?_
        refine jr_iload dX9_copy_164 rfl ?_
        refine jr_iadd dX9_copy_166 ?_
        refine jr_iload dX9_copy_167 rfl ?_
        refine jr_iadd dX9_copy_169 ?_
        refine jr_aload_n dX9_copy_170 rfl ?_
        refine gfX9_58 95 dX9_copy_171 (hw1.k rfl) (hw1.f rfl) ?_
        refine jr_iload dX9_copy_174 rfl ?_
        refine jr_iald k (hw1.k rfl) rfl ⟨by omega, by decide⟩ dX9_copy_176 ?_
        rw [hcar k (by omega)]
        refine jr_iast (24 * u + z + k) (hw1.k rfl) (by simp only [jlit, pk_mul, nI_add]) ⟨by omega, by decide⟩ dX9_copy_177 ?_
        refine jr_iinc_6 (nI (k + 1)) dX9_copy_178 (inc1 k) (by decide) rfl ?_
        refine jr_goto 149 dX9_copy_181 (by decide) ?_
        refine ih (k + 1) _ (by omega) (fun j hj => ?_) (fun j => ?_) (hS.tr (Sm.sR (by unfold scH; omega))) (by rw [wI_sR_n _ (by decide)]; exact h82) (by rw [wI_sR_n _ (by decide)]; exact h83)
        · rw [wI_sR_n _ (by decide)]; exact hcar j hj
        · rw [wI_sR_s]
          by_cases e : j = 24 * u + z + k
          · rw [e, pk_us, if_pos (by omega), show 24 * u + z + k - (24 * u + z) = k by omega]
          · rw [pk_un e, htn j]
            by_cases h : 24 * u + z ≤ j ∧ j < 24 * u + z + k
            · rw [if_pos h, if_pos (by omega)]
            · rw [if_neg h, if_neg (by omega)]
    have L0 : ¬ ((R1 q).toInt < 0 ∨ (R1 u).toInt < 0) → (R1 q).toInt = (R1 u).toInt → ∀ (y z l : Nat), p = nI y → t = nI z → m = nI l → y + l ≤ n → z + l ≤ n2 → ∀ (f k : Nat) (w1 : Wd), f + k = l → (∀ j, j < k → wI w1 95 j = R3 (24 * q + y + j)) → wI w1 84 = R3 → Sm scH w w1 → wI w1 82 = R1 → wI w1 83 = R2 → RR g RX9 cX9_copy 7 (some .int) "copy" 3 0 0 0 0 112 [some (.ref (gb g + 78)), some (.int (nI q)), some (.int p), some (.int (nI u)), some (.int t), some (.int m), some (.int (nI k))] [] w1 Q := by
      intro hso hso2 y z l ep et em hyl hzl f
      induction f with
      | zero =>
        intro k w1 hk hcar htn hS h82 h83
        have e : k = l := by omega
        subst e
        have hL := L hso hso2 y z k ep et em hyl hzl k 0 w1 (by omega) hcar (fun j => by rw [if_neg (by omega), htn]) hS h82 h83
        have hw1 := hS.wf hw
        rw [em]
        rw [em] at hL
        refine jr_iload dX9_copy_112 rfl ?_
        refine jr_iload dX9_copy_114 rfl ?_
        refine jr_icmp_ge 146 dX9_copy_116 (by decide) (fun c_116 => ?_) (fun c_116 => absurd (Int32.le_refl _) c_116)
        refine jr_iconst (0) dX9_copy_146 (by decide) ?_
        refine jr_istore_6 dX9_copy_147 (by decide) rfl ?_
        exact hL
      | succ f ih =>
        intro k w1 hk hcar htn hS h82 h83
        have hw1 := hS.wf hw
        refine jr_iload dX9_copy_112 rfl ?_
        refine jr_iload dX9_copy_114 rfl ?_
        refine jr_icmp_ge 146 dX9_copy_116 (by decide) (fun c_116 => absurd c_116 (by rw [em]; exact nI_ge (by omega) (by omega))) (fun c_116 => ?_)
        refine jr_aload_n dX9_copy_119 rfl ?_
        refine gfX9_58 95 dX9_copy_120 (hw1.k rfl) (hw1.f rfl) ?_
        refine jr_iload dX9_copy_123 rfl ?_
        refine jr_aload_n dX9_copy_125 rfl ?_
        refine gfX9_25 84 dX9_copy_126 (hw1.k rfl) (hw1.f rfl) ?_
        refine jr_bipush (24) dX9_copy_129 (by decide) ?_
        refine jr_iload_n dX9_copy_131 rfl ?_
        refine jr_imul dX9_copy_132 ?_
        refine jr_iload_n dX9_copy_133 rfl ?_
        refine jr_iadd dX9_copy_134 ?_
        refine jr_iload dX9_copy_135 rfl ?_
        refine jr_iadd dX9_copy_137 ?_
        refine jr_iald (24 * q + y + k) (hw1.k rfl) (by rw [ep]; simp only [jlit, pk_mul, nI_add]) ⟨by omega, by decide⟩ dX9_copy_138 ?_
        rw [htn]
        refine jr_iast k (hw1.k rfl) rfl ⟨by omega, by decide⟩ dX9_copy_139 ?_
        refine jr_iinc_6 (nI (k + 1)) dX9_copy_140 (inc1 k) (by decide) rfl ?_
        refine jr_goto 112 dX9_copy_143 (by decide) ?_
        refine ih (k + 1) _ (by omega) (fun j hj => ?_) (by rw [wI_sR_n _ (by decide)]; exact htn) (hS.tr (Sm.sR (by unfold scH; omega))) (by rw [wI_sR_n _ (by decide)]; exact h82) (by rw [wI_sR_n _ (by decide)]; exact h83)
        rw [wI_sR_s]
        by_cases e : j = k
        · rw [e, pk_us]
        · rw [pk_un e]; exact hcar j (by omega)
    refine jr_iload_n dX9_copy_0 rfl ?_
    refine jc_Si (c_isSheet g _ _) lkX9_178 rfl rfl (Nat.le_of_ble_eq_true rfl) (Nat.le_of_ble_eq_true rfl) dX9_copy_1 (fun r_1 w_1 h_1 => ?_)
    obtain ⟨rfl, rfl⟩ := h_1
    refine jr_if_eq 14 dX9_copy_4 (by decide) (fun c_4 => absurd c_4 (jb_1.mpr hc.1)) (fun c_4 => ?_)
    refine jr_iload_n dX9_copy_7 rfl ?_
    refine jc_Si (c_isSheet g _ _) lkX9_178 rfl rfl (Nat.le_of_ble_eq_true rfl) (Nat.le_of_ble_eq_true rfl) dX9_copy_8 (fun r_8 w_8 h_8 => ?_)
    obtain ⟨rfl, rfl⟩ := h_8
    refine jr_if_ne 17 dX9_copy_11 (by decide) (fun c_11 => ?_) (fun c_11 => absurd c_11 (jb_1.mpr hc.2))
    refine jr_aload_n dX9_copy_17 rfl ?_
    refine gfX9_19 82 dX9_copy_18 (hw.k rfl) (hw.f rfl) ?_
    refine jr_iload_n dX9_copy_21 rfl ?_
    refine jr_iald q (hw.k rfl) rfl ⟨hq, by decide⟩ dX9_copy_22 ?_
    rw [hR1]
    refine jr_if_lt 35 dX9_copy_23 (by decide) (fun c_23 => ?_) (fun c_23 => ?_)
    · simp only [lt_i, le_i, eq_i, Int32.reduceToInt] at c_23
      refine jr_ldc (-1000000011) ckX9_181 dX9_copy_35 ?_
      refine jr_iret rfl dX9_copy_37 ?_
      exact hQ _ _ (finH (by rw [e0, if_pos (by omega)]) (MH.rf ⟨hR1, hR2, hR3⟩))
    · simp only [lt_i, le_i, eq_i, Int32.reduceToInt] at c_23
      refine jr_aload_n dX9_copy_26 rfl ?_
      refine gfX9_19 82 dX9_copy_27 (hw.k rfl) (hw.f rfl) ?_
      refine jr_iload_n dX9_copy_30 rfl ?_
      refine jr_iald u (hw.k rfl) rfl ⟨hu, by decide⟩ dX9_copy_31 ?_
      rw [hR1]
      refine jr_if_ge 38 dX9_copy_32 (by decide) (fun c_32 => ?_) (fun c_32 => ?_)
      · simp only [lt_i, le_i, eq_i, Int32.reduceToInt] at c_32
        refine jr_aload_n dX9_copy_38 rfl ?_
        refine gfX9_19 82 dX9_copy_39 (hw.k rfl) (hw.f rfl) ?_
        refine jr_iload_n dX9_copy_42 rfl ?_
        refine jr_iald q (hw.k rfl) rfl ⟨hq, by decide⟩ dX9_copy_43 ?_
        refine jr_aload_n dX9_copy_44 rfl ?_
        refine gfX9_19 82 dX9_copy_45 (hw.k rfl) (hw.f rfl) ?_
        refine jr_iload_n dX9_copy_48 rfl ?_
        refine jr_iald u (hw.k rfl) rfl ⟨hu, by decide⟩ dX9_copy_49 ?_
        rw [hR1]
        refine jr_icmp_eq 56 dX9_copy_50 (by decide) (fun c_50 => ?_) (fun c_50 => ?_)
        · simp only [lt_i, le_i, eq_i, Int32.reduceToInt] at c_50
          refine jr_iload_n dX9_copy_56 rfl ?_
          refine jr_if_lt 105 dX9_copy_57 (by decide) (fun c_57 => ?_) (fun c_57 => ?_)
          · simp only [lt_i, le_i, eq_i, Int32.reduceToInt] at c_57
            refine jr_ldcw (-1000000013) ckX9_299 dX9_copy_105 ?_
            refine jr_iret rfl dX9_copy_108 ?_
            exact hQ _ _ (finH (by rw [e0, if_neg (by omega), if_neg (fun h => h c_50), if_pos (by omega)]) (MH.rf ⟨hR1, hR2, hR3⟩))
          · simp only [lt_i, le_i, eq_i, Int32.reduceToInt] at c_57
            refine jr_iload dX9_copy_60 rfl ?_
            refine jr_if_lt 105 dX9_copy_62 (by decide) (fun c_62 => ?_) (fun c_62 => ?_)
            · simp only [lt_i, le_i, eq_i, Int32.reduceToInt] at c_62
              refine jr_ldcw (-1000000013) ckX9_299 dX9_copy_105 ?_
              refine jr_iret rfl dX9_copy_108 ?_
              exact hQ _ _ (finH (by rw [e0, if_neg (by omega), if_neg (fun h => h c_50), if_pos (by omega)]) (MH.rf ⟨hR1, hR2, hR3⟩))
            · simp only [lt_i, le_i, eq_i, Int32.reduceToInt] at c_62
              refine jr_iload dX9_copy_65 rfl ?_
              refine jr_if_lt 105 dX9_copy_67 (by decide) (fun c_67 => ?_) (fun c_67 => ?_)
              · simp only [lt_i, le_i, eq_i, Int32.reduceToInt] at c_67
                refine jr_ldcw (-1000000013) ckX9_299 dX9_copy_105 ?_
                refine jr_iret rfl dX9_copy_108 ?_
                exact hQ _ _ (finH (by rw [e0, if_neg (by omega), if_neg (fun h => h c_50), if_pos (by omega)]) (MH.rf ⟨hR1, hR2, hR3⟩))
              · simp only [lt_i, le_i, eq_i, Int32.reduceToInt] at c_67
                refine jr_iload_n dX9_copy_70 rfl ?_
                refine jr_i2l dX9_copy_71 ?_
                refine jr_iload dX9_copy_72 rfl ?_
                refine jr_i2l dX9_copy_74 ?_
                refine jr_ladd dX9_copy_75 ?_
                refine jr_aload_n dX9_copy_76 rfl ?_
                refine gfX9_22 83 dX9_copy_77 (hw.k rfl) (hw.f rfl) ?_
                refine jr_iload_n dX9_copy_80 rfl ?_
                refine jr_iald q (hw.k rfl) rfl ⟨hq, by decide⟩ dX9_copy_81 ?_
                rw [hR2, en]
                refine jr_i2l dX9_copy_82 ?_
                refine jr_lcmp dX9_copy_83 ?_
                refine jr_if_gt 105 dX9_copy_84 (by decide) (fun c_84 => ?_) (fun c_84 => ?_)
                · rw [lg_cmp_gt, lt_l] at c_84
                  rw [l_of_i, l_add] at c_84
                  refine jr_ldcw (-1000000013) ckX9_299 dX9_copy_105 ?_
                  refine jr_iret rfl dX9_copy_108 ?_
                  exact hQ _ _ (finH (by rw [e0, if_neg (by omega), if_neg (fun h => h c_50), if_pos (by omega)]) (MH.rf ⟨hR1, hR2, hR3⟩))
                · rw [lg_cmp_gt, lt_l] at c_84
                  rw [l_of_i, l_add] at c_84
                  refine jr_iload dX9_copy_87 rfl ?_
                  refine jr_i2l dX9_copy_89 ?_
                  refine jr_iload dX9_copy_90 rfl ?_
                  refine jr_i2l dX9_copy_92 ?_
                  refine jr_ladd dX9_copy_93 ?_
                  refine jr_aload_n dX9_copy_94 rfl ?_
                  refine gfX9_22 83 dX9_copy_95 (hw.k rfl) (hw.f rfl) ?_
                  refine jr_iload_n dX9_copy_98 rfl ?_
                  refine jr_iald u (hw.k rfl) rfl ⟨hu, by decide⟩ dX9_copy_99 ?_
                  rw [hR2, en2]
                  refine jr_i2l dX9_copy_100 ?_
                  refine jr_lcmp dX9_copy_101 ?_
                  refine jr_if_le 109 dX9_copy_102 (by decide) (fun c_102 => ?_) (fun c_102 => ?_)
                  · rw [lg_cmp_le, le_l] at c_102
                    rw [l_of_i, l_add] at c_102
                    refine jr_iconst (0) dX9_copy_109 (by decide) ?_
                    refine jr_istore_6 dX9_copy_110 (by decide) rfl ?_
                    obtain ⟨y, hy, ey⟩ := i_of (n := 25) (x := p) (by omega) (by omega)
                    obtain ⟨z, hz, ez⟩ := i_of (n := 25) (x := t) (by omega) (by omega)
                    obtain ⟨l, hl, el⟩ := i_of (n := 25) (x := m) (by omega) (by omega)
                    have ey2 := i_nI (n := y) (by omega)
                    have ez2 := i_nI (n := z) (by omega)
                    have el2 := i_nI (n := l) (by omega)
                    rw [← ey] at ey2
                    rw [← ez] at ez2
                    rw [← el] at el2
                    exact L0 (by omega) c_50 y z l ey ez el (by omega) (by omega) l 0 w (by omega) (fun j hj => absurd hj (by omega)) hR3 Sm.rf hR1 hR2
                  · rw [lg_cmp_le, le_l] at c_102
                    rw [l_of_i, l_add] at c_102
                    refine jr_ldcw (-1000000013) ckX9_299 dX9_copy_105 ?_
                    refine jr_iret rfl dX9_copy_108 ?_
                    exact hQ _ _ (finH (by rw [e0, if_neg (by omega), if_neg (fun h => h c_50), if_pos (by omega)]) (MH.rf ⟨hR1, hR2, hR3⟩))
        · simp only [lt_i, le_i, eq_i, Int32.reduceToInt] at c_50
          refine jr_ldc (-1000000012) ckX9_125 dX9_copy_53 ?_
          refine jr_iret rfl dX9_copy_55 ?_
          exact hQ _ _ (finH (by rw [e0, if_neg (by omega), if_pos c_50]) (MH.rf ⟨hR1, hR2, hR3⟩))
      · simp only [lt_i, le_i, eq_i, Int32.reduceToInt] at c_32
        refine jr_ldc (-1000000011) ckX9_181 dX9_copy_35 ?_
        refine jr_iret rfl dX9_copy_37 ?_
        exact hQ _ _ (finH (by rw [e0, if_pos (by omega)]) (MH.rf ⟨hR1, hR2, hR3⟩))
  · by_cases ha : isS a
    · have hb : ¬ isS b := fun h => hc ⟨ha, h⟩
      refine jr_iload_n dX9_copy_0 rfl ?_
      refine jc_Si (c_isSheet g _ _) lkX9_178 rfl rfl (Nat.le_of_ble_eq_true rfl) (Nat.le_of_ble_eq_true rfl) dX9_copy_1 (fun r_1 w_1 h_1 => ?_)
      obtain ⟨rfl, rfl⟩ := h_1
      refine jr_if_eq 14 dX9_copy_4 (by decide) (fun c_4 => absurd c_4 (jb_1.mpr ha)) (fun c_4 => ?_)
      refine jr_iload_n dX9_copy_7 rfl ?_
      refine jc_Si (c_isSheet g _ _) lkX9_178 rfl rfl (Nat.le_of_ble_eq_true rfl) (Nat.le_of_ble_eq_true rfl) dX9_copy_8 (fun r_8 w_8 h_8 => ?_)
      obtain ⟨rfl, rfl⟩ := h_8
      refine jr_if_ne 17 dX9_copy_11 (by decide) (fun c_11 => absurd (jb_f hb) c_11) (fun c_11 => ?_)
      refine jr_ldc (-1000000001) ckX9_83 dX9_copy_14 ?_
      refine jr_iret rfl dX9_copy_16 ?_
      exact hQ _ _ (finH (by rw [F_copy, if_pos hc]) (MH.rf ⟨hR1, hR2, hR3⟩))
    · refine jr_iload_n dX9_copy_0 rfl ?_
      refine jc_Si (c_isSheet g _ _) lkX9_178 rfl rfl (Nat.le_of_ble_eq_true rfl) (Nat.le_of_ble_eq_true rfl) dX9_copy_1 (fun r_1 w_1 h_1 => ?_)
      obtain ⟨rfl, rfl⟩ := h_1
      refine jr_if_eq 14 dX9_copy_4 (by decide) (fun c_4 => ?_) (fun c_4 => absurd (jb_f ha) c_4)
      refine jr_ldc (-1000000001) ckX9_83 dX9_copy_14 ?_
      refine jr_iret rfl dX9_copy_16 ?_
      exact hQ _ _ (finH (by rw [F_copy, if_pos hc]) (MH.rf ⟨hR1, hR2, hR3⟩))
