-- the class: rows that are checked
def scC2 : Nat → Prop := fun i => i = 0 ∨ scT2 i
theorem p_check (g : Cx) (w : Wd) (hw : Wf w) (W : Nat) (hW : W ≤ 60) (h10 : wI w 0 10 = nI W) (wt im : Nat → Int32) (hwt : ∀ j, j < W → wI w 47 j = wt j) (hI : ¬ wI w 0 3 = 0 → NR w 12 im ∧ Gd im ∧ sN im 2 ≤ 9999 ∧ TxW w 12) (n : Int32) : CI g yX8_check cX8_check 6 (some .int) 7 0 0 [.ref (gb g + 0), .int n] w (fun r w' => r = F_check (wI w 0 3) W wt im n ∧ wI w' 0 = upd (wI w 0) 10 0 ∧ Sq scC2 p26 w w') := by
  refine CI.of (own := RX8) (nm := "check") (lv := [some (.ref (gb g + 0)), some (.int n), none, none, none, none]) (by decide) rfl rfl (Nat.le_of_ble_eq_true rfl) rfl (fun Q hQ => ?_)
  obtain ⟨w0, e0⟩ : ∃ w0, w0 = sR w 0 (upd (wI w 0) 10 0) := ⟨_, rfl⟩
  have r0 : wI w0 0 = upd (wI w 0) 10 0 := by rw [e0, wI_sR_s]
  have hS0 : Sq scC2 p26 w w0 := by rw [e0]; exact Sq.sR (Or.inl rfl)
  have hm0 : Sm (fun i => i = 0) w w0 := by rw [e0]; exact Sm.sR rfl
  have hw0 : Wf w0 := hm0.wf hw
  have fin : ∀ w1, Sth w0 w1 → wI w1 0 = upd (wI w 0) 10 0 ∧ Sq scC2 p26 w w1 := fun w1 h => ⟨by rw [h.2.2.1 0 (by unfold scT2 scK; omega)]; exact r0, hS0.tr (h.mono (fun i q => Or.inr q) (fun i q => q))⟩
  by_cases hn : inR n 1 30
  · have hn2 : 1 ≤ n.toInt ∧ n.toInt ≤ 30 := hn
    obtain ⟨n0, hn0, en⟩ := i_of (n := 31) (x := n) (by omega) (by omega)
    subst en
    have enc : (nI n0).toNatClampNeg = n0 := nI_clamp (by omega)
    have eni : (nI n0).toInt = (n0 : Int) := i_nI (by omega)
    have K24 : RR g RX8 cX8_check 6 (some .int) "check" 7 0 0 0 0 24 [some (.ref (gb g + 0)), some (.int (nI n0)), some (.int (nI W)), none, none, none] [] w0 Q := by
      by_cases hz : wI w 0 3 = 0
      · refine jr_aload_n dX8_check_24 rfl ?_
        refine gfX8_22 dX8_check_25 (hw0.k rfl) ?_
        rw [r0, pk_un (by decide)]
        refine jr_if_ne 35 dX8_check_28 (by decide) (fun c_28 => absurd hz c_28) (fun c_28 => ?_)
        refine jr_ldcw (-1000000002) ckX8_315 dX8_check_31 ?_
        refine jr_iret rfl dX8_check_34 ?_
        exact hQ _ _ ⟨by rw [F_check, if_neg (fun h => h hn), if_pos hz], fin _ Sq.rf⟩
      · obtain ⟨hNi, hGi, h99, hTx⟩ := hI hz
        have h14 : sN im 1 ≤ 14 := hGi.2.1.2
        obtain ⟨m, em⟩ : ∃ m, m = min n0 (9999 - sN im 2) := ⟨_, rfl⟩
        have eF : F_check (wI w 0 3) W wt im (nI n0) = if chK W m wt im = W ∧ chK W m wt im = 2 * m then 0 else nI (1 + chK W m wt im) := by
          rw [F_check, if_neg (fun h => h hn), if_neg hz, enc, ← em]
        rw [eF] at hQ
        have e6 : (nI (9999 - sN im 2)).toInt = ((9999 - sN im 2 : Nat) : Int) := i_nI (by omega)
        have hmin : (if (nI (9999 - sN im 2)).toInt < (nI n0).toInt then nI (9999 - sN im 2) else nI n0) = nI m := by
          by_cases c : (nI (9999 - sN im 2)).toInt < (nI n0).toInt
          · rw [if_pos c]; exact congrArg nI (by omega)
          · rw [if_neg c]; exact congrArg nI (by omega)
        have hGM := fun i (hi : i ≤ m) => (Gd_goM hGi i (by omega)).1
        have eWi : (nI W).toInt = (W : Int) := i_nI (by omega)
        have L : ∀ (f i : Nat) (w1 : Wd) (a5 : Option Value), f + i = 2 * m → Sth w0 w1 → NR w1 23 (goM im ((i + 1) / 2)) → (∀ j, j < i → chB W m wt im j = false) → RR g RX8 cX8_check 6 (some .int) "check" 7 0 0 0 0 67 [some (.ref (gb g + 0)), some (.int (nI n0)), some (.int (nI W)), some (.int (nI (2 * m))), some (.int (nI i)), a5] [] w1 Q := by
          intro f
          induction f with
          | zero =>
            intro i w1 a5 hi hS hN1 hno
            have e : i = 2 * m := by omega
            subst e
            have hck : chK W m wt im = 2 * m := fstB_at hno (decide_eq_true (Or.inr (Or.inl (Nat.le_refl _)))) (by omega)
            have hWm : 2 * m ≤ W := by
              by_cases hz2 : m = 0
              · omega
              · have h9 := of_decide_eq_false (hno (2 * m - 1) (by omega))
                omega
            rw [hck] at hQ
            have e2m : (nI (2 * m)).toInt = ((2 * m : Nat) : Int) := i_nI (by omega)
            refine jr_iload dX8_check_67 rfl ?_
            refine jr_iload_n dX8_check_69 rfl ?_
            refine jr_icmp_ge 151 dX8_check_70 (by decide) (fun c_70 => ?_) (fun c_70 => absurd (Int32.le_refl _) c_70)
            refine jr_iload_n dX8_check_151 rfl ?_
            refine jr_iload_n dX8_check_152 rfl ?_
            refine jr_icmp_le 162 dX8_check_153 (by decide) (fun c_153 => ?_) (fun c_153 => ?_)
            · simp only [lt_i, le_i, eq_i, Int32.reduceToInt] at c_153
              refine jr_iconst (0) dX8_check_162 (by decide) ?_
              refine jr_iret rfl dX8_check_163 ?_
              refine hQ _ _ ⟨?_, fin _ hS⟩
              first | (rw [if_neg (by omega)]; done) | (rw [if_pos (by omega)]; done)
            · simp only [lt_i, le_i, eq_i, Int32.reduceToInt] at c_153
              refine jr_iconst (1) dX8_check_156 (by decide) ?_
              refine jr_iload_n dX8_check_157 rfl ?_
              refine jr_iadd dX8_check_158 ?_
              rw [jlit 1, nI_add]
              refine jr_goto 163 dX8_check_159 (by decide) ?_
              refine jr_iret rfl dX8_check_163 ?_
              refine hQ _ _ ⟨?_, fin _ hS⟩
              first | (rw [if_neg (by omega)]; done) | (rw [if_pos (by omega)]; done)
          | succ f ih =>
            intro i w1 a5 hi hS hN1 hno
            have hw1 := hS.wf hw0
            have eii : (nI i).toInt = (i : Int) := i_nI (by omega)
            have hrem : nI i - nI i / 2 * 2 = nI (i % 2) := pk_rem (by omega) (by decide) (by decide)
            -- the place differs
            have bad : ∀ w2, Sth w0 w2 → chB W m wt im i = true → Q (some (.int (nI (1 + i)))) w2 := by
              intro w2 hS2 hb
              have hck : chK W m wt im = i := fstB_at hno hb (by omega)
              rw [hck] at hQ
              exact hQ _ _ ⟨by rw [if_neg (by omega)], fin _ hS2⟩
            have K100 : ∀ (w2 : Wd) (b : Int32), Sth w0 w2 → NR w2 23 (goM im (i / 2 + 1)) → b = jb (i % 2 = 0) → RR g RX8 cX8_check 6 (some .int) "check" 7 0 0 0 0 100 [some (.ref (gb g + 0)), some (.int (nI n0)), some (.int (nI W)), some (.int (nI (2 * m))), some (.int (nI i)), some (.int b)] [] w2 Q := by
              intro w2 b hS2 hN2 hb
              have hw1 := hS2.wf hw0
              by_cases hWi : W ≤ i
              · refine jr_iload dX8_check_100 rfl ?_
                refine jr_iload_n dX8_check_102 rfl ?_
                refine jr_icmp_ge 140 dX8_check_103 (by decide) (fun c_103 => ?_) (fun c_103 => absurd (nI_le hWi (by omega)) c_103)
                refine jr_iconst (1) dX8_check_140 (by decide) ?_
                refine jr_iload dX8_check_141 rfl ?_
                refine jr_iadd dX8_check_143 ?_
                rw [jlit 1, nI_add]
                refine jr_iret rfl dX8_check_144 ?_
                exact bad _ hS2 (decide_eq_true (Or.inl hWi))
              · have r47 : wI w2 47 i = wt i := by rw [hS2.2.2.1 47 (by unfold scT2 scK; omega), e0, wI_sR_n _ (by decide)]; exact hwt i (by omega)
                have K137 : RR g RX8 cX8_check 6 (some .int) "check" 7 0 0 0 0 137 [some (.ref (gb g + 0)), some (.int (nI n0)), some (.int (nI W)), some (.int (nI (2 * m))), some (.int (nI i)), some (.int b)] [.int (duR im i), .int (wt i)] w2 Q := by
                  by_cases hd : wt i = duR im i
                  · have h9 := ih (i + 1) w2 (some (.int b)) (by omega) hS2 (by rw [show (i + 1 + 1) / 2 = i / 2 + 1 by omega]; exact hN2) (fun j hj => by
                      by_cases e : j = i
                      · rw [e]; exact decide_eq_false (fun h => by
                          rcases h with h | h | h
                          · omega
                          · omega
                          · exact h hd)
                      · exact hno j (by omega))
                    refine jr_icmp_eq 145 dX8_check_137 (by decide) (fun c_137 => ?_) (fun c_137 => absurd hd c_137)
                    refine jr_iinc_4 (nI (i + 1)) dX8_check_145 (inc1 i) (by decide) rfl ?_
                    refine jr_goto 67 dX8_check_148 (by decide) ?_
                    exact h9
                  · refine jr_icmp_eq 145 dX8_check_137 (by decide) (fun c_137 => absurd c_137 hd) (fun c_137 => ?_)
                    refine jr_iconst (1) dX8_check_140 (by decide) ?_
                    refine jr_iload dX8_check_141 rfl ?_
                    refine jr_iadd dX8_check_143 ?_
                    rw [jlit 1, nI_add]
                    refine jr_iret rfl dX8_check_144 ?_
                    exact bad _ hS2 (decide_eq_true (Or.inr (Or.inr hd)))
                by_cases hev : i % 2 = 0
                · have eb : b = 1 := by rw [hb]; exact jb_t hev
                  subst eb
                  have ed : duR im i = goM im (i / 2 + 1) 3 := if_pos hev
                  rw [ed] at K137
                  refine jr_iload dX8_check_100 rfl ?_
                  refine jr_iload_n dX8_check_102 rfl ?_
                  refine jr_icmp_ge 140 dX8_check_103 (by decide) (fun c_103 => absurd c_103 (nI_ge (by omega) (by omega))) (fun c_103 => ?_)
                  refine jr_aload_n dX8_check_106 rfl ?_
                  refine gfX8_55 47 dX8_check_107 (hw1.k rfl) (hw1.f rfl) ?_
                  refine jr_iload dX8_check_110 rfl ?_
                  refine jr_iald i (hw1.k rfl) rfl ⟨by omega, by decide⟩ dX8_check_112 ?_
                  rw [r47]
                  refine jr_iload dX8_check_113 rfl ?_
                  refine jr_if_eq 128 dX8_check_115 (by decide) (fun c_115 => absurd c_115 (by decide)) (fun c_115 => ?_)
                  refine jr_aload_n dX8_check_118 rfl ?_
                  refine gfX8_19 23 dX8_check_119 (hw1.k rfl) (hw1.f rfl) ?_
                  refine gfX8_149 dX8_check_122 (hw1.k rfl) ?_
                  rw [hN2.1.2.2.2.1]
                  refine jr_goto 137 dX8_check_125 (by decide) ?_
                  exact K137
                · have eb : b = 0 := by rw [hb]; exact jb_f hev
                  subst eb
                  have ed : duR im i = goM im (i / 2 + 1) 28 := if_neg hev
                  rw [ed] at K137
                  refine jr_iload dX8_check_100 rfl ?_
                  refine jr_iload_n dX8_check_102 rfl ?_
                  refine jr_icmp_ge 140 dX8_check_103 (by decide) (fun c_103 => absurd c_103 (nI_ge (by omega) (by omega))) (fun c_103 => ?_)
                  refine jr_aload_n dX8_check_106 rfl ?_
                  refine gfX8_55 47 dX8_check_107 (hw1.k rfl) (hw1.f rfl) ?_
                  refine jr_iload dX8_check_110 rfl ?_
                  refine jr_iald i (hw1.k rfl) rfl ⟨by omega, by decide⟩ dX8_check_112 ?_
                  rw [r47]
                  refine jr_iload dX8_check_113 rfl ?_
                  refine jr_if_eq 128 dX8_check_115 (by decide) (fun c_115 => ?_) (fun c_115 => absurd (by decide) c_115)
                  refine jr_aload_n dX8_check_128 rfl ?_
                  refine gfX8_19 23 dX8_check_129 (hw1.k rfl) (hw1.f rfl) ?_
                  refine gfX8_165 25 dX8_check_132 (hw1.k rfl) (hw1.f rfl) ?_
                  refine jr_iconst (0) dX8_check_135 (by decide) ?_
                  refine jr_iald 0 (hw1.k rfl) rfl (by decide) dX8_check_136 ?_
                  rw [show wI w2 25 0 = goM im (i / 2 + 1) 28 from hN2.2.1 0 (by decide)]
                  exact K137
            by_cases hev : i % 2 = 0
            · rw [show (i + 1) / 2 = i / 2 by omega] at hN1
              refine jr_iload dX8_check_67 rfl ?_
              refine jr_iload_n dX8_check_69 rfl ?_
              refine jr_icmp_ge 151 dX8_check_70 (by decide) (fun c_70 => absurd c_70 (nI_ge (by omega) (by omega))) (fun c_70 => ?_)
              refine jr_iload dX8_check_73 rfl ?_
              refine jr_iconst (2) dX8_check_75 (by decide) ?_
              refine jr_irem dX8_check_76 (by decide) ?_
              rw [hrem, hev]
              refine jr_if_ne 84 dX8_check_77 (by decide) (fun c_77 => absurd (by decide) c_77) (fun c_77 => ?_)
              refine jr_iconst (1) dX8_check_80 (by decide) ?_
              refine jr_goto 85 dX8_check_81 (by decide) ?_
              refine jr_istore_5 dX8_check_85 (by decide) rfl ?_
              refine jr_iload dX8_check_87 rfl ?_
              refine jr_if_eq 100 dX8_check_89 (by decide) (fun c_89 => absurd c_89 (by decide)) (fun c_89 => ?_)
              refine jr_aload_n dX8_check_92 rfl ?_
              refine gfX8_19 23 dX8_check_93 (hw1.k rfl) (hw1.f rfl) ?_
              refine jr_iconst (1) dX8_check_96 (by decide) ?_
              refine jc_Vv (c_pass g _ hw1 23 NA3 (goM im (i / 2)) hN1 1 (by decide) (fun j hj => by rw [show j = 0 by omega]; exact hGM (i / 2) (by omega))) lkX8_155 (hw1.k rfl) rfl rfl (Nat.le_of_ble_eq_true rfl) (Nat.le_of_ble_eq_true rfl) dX8_check_97 (fun w_97 h_97 => ?_)
              obtain ⟨hN2, hS2⟩ := h_97
              exact K100 _ _ (hS.tr (Sth.g hS2)) hN2 (jb_t' hev)
            · rw [show (i + 1) / 2 = i / 2 + 1 by omega] at hN1
              refine jr_iload dX8_check_67 rfl ?_
              refine jr_iload_n dX8_check_69 rfl ?_
              refine jr_icmp_ge 151 dX8_check_70 (by decide) (fun c_70 => absurd c_70 (nI_ge (by omega) (by omega))) (fun c_70 => ?_)
              refine jr_iload dX8_check_73 rfl ?_
              refine jr_iconst (2) dX8_check_75 (by decide) ?_
              refine jr_irem dX8_check_76 (by decide) ?_
              rw [hrem, show i % 2 = 1 by omega]
              refine jr_if_ne 84 dX8_check_77 (by decide) (fun c_77 => ?_) (fun c_77 => absurd c_77 (by decide))
              refine jr_iconst (0) dX8_check_84 (by decide) ?_
              refine jr_istore_5 dX8_check_85 (by decide) rfl ?_
              refine jr_iload dX8_check_87 rfl ?_
              refine jr_if_eq 100 dX8_check_89 (by decide) (fun c_89 => ?_) (fun c_89 => absurd (by decide) c_89)
              exact K100 _ _ hS hN1 (jb_f' hev)
        have K46 : ∀ w1, Sth w0 w1 → NR w1 23 im → RR g RX8 cX8_check 6 (some .int) "check" 7 0 0 0 0 46 [some (.ref (gb g + 0)), some (.int (nI n0)), some (.int (nI W)), none, none, none] [] w1 Q := by
          intro w1 hS hN1
          have hw1 := hS.wf hw0
          have hmi := hGi.2.2.1
          refine jr_iconst (2) dX8_check_46 (by decide) ?_
          refine jr_iload_n dX8_check_47 rfl ?_
          refine jr_sipush (9999) dX8_check_48 (by decide) ?_
          refine jr_aload_n dX8_check_51 rfl ?_
          refine gfX8_19 23 dX8_check_52 (hw1.k rfl) (hw1.f rfl) ?_
          refine gfX8_152 dX8_check_55 (hw1.k rfl) ?_
          rw [hN1.1.2.2.2.2.2.2.1, hmi.1]
          refine jr_isub dX8_check_58 ?_
          rw [jlit 9999, pk_sub h99]
          refine jc_Si (c_min g _ _ _) lkX8_137 rfl rfl (Nat.le_of_ble_eq_true rfl) (Nat.le_of_ble_eq_true rfl) dX8_check_59 (fun r_59 w_59 h_59 => ?_)
          obtain ⟨rfl, rfl⟩ := h_59
          rw [hmin]
          refine jr_imul dX8_check_62 ?_
          rw [jlit 2, pk_mul]
          refine jr_istore_3 dX8_check_63 (by decide) rfl ?_
          refine jr_iconst (0) dX8_check_64 (by decide) ?_
          refine jr_istore_4 dX8_check_65 (by decide) rfl ?_
          exact L (2 * m) 0 _ _ rfl hS hN1 (fun j hj => absurd hj (by omega))
        have hNi0 : NR w0 12 im := hNi.sm hm0 (fun i h e => by omega)
        have hTx0 : TxW w0 12 := fun t ht => by
          rcases hTx t ht with h | ⟨c, h1, h2⟩
          · exact Or.inl (by rw [hm0.F]; exact h)
          · exact Or.inr ⟨c, by rw [hm0.F]; exact h1, hm0.K.mpr h2⟩
        refine jr_aload_n dX8_check_24 rfl ?_
        refine gfX8_22 dX8_check_25 (hw0.k rfl) ?_
        rw [r0, pk_un (by decide)]
        refine jr_if_ne 35 dX8_check_28 (by decide) (fun c_28 => ?_) (fun c_28 => absurd c_28 hz)
        refine jr_aload_n dX8_check_35 rfl ?_
        refine gfX8_19 23 dX8_check_36 (hw0.k rfl) (hw0.f rfl) ?_
        refine jr_aload_n dX8_check_39 rfl ?_
        refine gfX8_16 12 dX8_check_40 (hw0.k rfl) (hw0.f rfl) ?_
        refine jc_Vv (c_take g _ hw0 23 12 NA3 NA2 (by decide) hTx0) lkX8_217 (hw0.k rfl) rfl rfl (Nat.le_of_ble_eq_true rfl) (Nat.le_of_ble_eq_true rfl) dX8_check_43 (fun w_43 h_43 => ?_)
        exact K46 _ (Sth.c h_43) (h_43.nr NA3 h14 hNi0)
    refine jr_aload_n dX8_check_0 rfl ?_
    refine gfX8_59 dX8_check_1 (hw.k rfl) ?_
    rw [h10]
    refine jr_istore_2 dX8_check_4 (by decide) rfl ?_
    refine jr_aload_n dX8_check_5 rfl ?_
    refine jr_iconst (0) dX8_check_6 (by decide) ?_
    refine pfX8_59 dX8_check_7 (hw.k rfl) ?_
    rw [← e0]
    refine jr_iload_n dX8_check_10 rfl ?_
    refine jr_iconst (1) dX8_check_11 (by decide) ?_
    refine jr_icmp_lt 21 dX8_check_12 (by decide) (fun c_12 => ?_) (fun c_12 => ?_)
    · simp only [lt_i, le_i, eq_i, Int32.reduceToInt] at c_12
      exfalso; omega
    · simp only [lt_i, le_i, eq_i, Int32.reduceToInt] at c_12
      refine jr_iload_n dX8_check_15 rfl ?_
      refine jr_bipush (30) dX8_check_16 (by decide) ?_
      refine jr_icmp_le 24 dX8_check_18 (by decide) (fun c_18 => ?_) (fun c_18 => ?_)
      · simp only [lt_i, le_i, eq_i, Int32.reduceToInt] at c_18
        exact K24
      · simp only [lt_i, le_i, eq_i, Int32.reduceToInt] at c_18
        exfalso; omega
  · refine jr_aload_n dX8_check_0 rfl ?_
    refine gfX8_59 dX8_check_1 (hw.k rfl) ?_
    rw [h10]
    refine jr_istore_2 dX8_check_4 (by decide) rfl ?_
    refine jr_aload_n dX8_check_5 rfl ?_
    refine jr_iconst (0) dX8_check_6 (by decide) ?_
    refine pfX8_59 dX8_check_7 (hw.k rfl) ?_
    rw [← e0]
    refine jr_iload_n dX8_check_10 rfl ?_
    refine jr_iconst (1) dX8_check_11 (by decide) ?_
    refine jr_icmp_lt 21 dX8_check_12 (by decide) (fun c_12 => ?_) (fun c_12 => ?_)
    · simp only [lt_i, le_i, eq_i, Int32.reduceToInt] at c_12
      refine jr_ldc (-1000000001) ckX8_80 dX8_check_21 ?_
      refine jr_iret rfl dX8_check_23 ?_
      exact hQ _ _ ⟨by rw [F_check, if_pos hn], fin _ Sq.rf⟩
    · simp only [lt_i, le_i, eq_i, Int32.reduceToInt] at c_12
      refine jr_iload_n dX8_check_15 rfl ?_
      refine jr_bipush (30) dX8_check_16 (by decide) ?_
      refine jr_icmp_le 24 dX8_check_18 (by decide) (fun c_18 => ?_) (fun c_18 => ?_)
      · simp only [lt_i, le_i, eq_i, Int32.reduceToInt] at c_18
        exfalso; exact hn (by unfold inR; omega)
      · simp only [lt_i, le_i, eq_i, Int32.reduceToInt] at c_18
        refine jr_ldc (-1000000001) ckX8_80 dX8_check_21 ?_
        refine jr_iret rfl dX8_check_23 ?_
        exact hQ _ _ ⟨by rw [F_check, if_pos hn], fin _ Sq.rf⟩
