-- the class: sheets against sheets, clocks and times
theorem p_copy (g : Cx) (w : Wd) (hw : Wf w) (R : Sh) (hR : ShR w R) (hO : ShOk R) (a p b t m : Int32) : CI g yX8_copy cX8_copy 8 (some .int) 2 0 0 [.ref (gb g + 0), .int a, .int p, .int b, .int t, .int m] w (fun r w' => r = (F_copy R a p b t m).1 ∧ CH w w' (F_copy R a p b t m).2) := by
  refine CI.of (own := RX8) (nm := "copy") (lv := [some (.ref (gb g + 0)), some (.int a), some (.int p), some (.int b), some (.int t), some (.int m), none, none]) (by decide) rfl rfl (Nat.le_of_ble_eq_true rfl) rfl (fun Q hQ => ?_)
  by_cases hk : isS a ∧ isS b
  · obtain ⟨i, hi, ei⟩ := i_of (n := 4) (x := a) hk.1.1 hk.1.2
    obtain ⟨j, hj, ej⟩ := i_of (n := 4) (x := b) hk.2.1 hk.2.2
    subst ei
    subst ej
    have eic : (nI i).toNatClampNeg = i := nI_clamp (by omega)
    have ejc : (nI j).toNatClampNeg = j := nI_clamp (by omega)
    have hCi := shc hw hi
    have hCj := shc hw hj
    obtain ⟨z1, z2, z3⟩ := hR i hi
    obtain ⟨y1, y2, y3⟩ := hR j hj
    obtain ⟨hso, n, hn, en⟩ := hO i hi
    obtain ⟨hso2, n2, hn2, en2⟩ := hO j hj
    have hsoi : (R.1 i).toInt = -1 ∨ (R.1 i).toInt = 0 ∨ (R.1 i).toInt = 1 := by
      rcases hso with e | e | e <;> rw [e] <;> decide
    have hsoj : (R.1 j).toInt = -1 ∨ (R.1 j).toInt = 0 ∨ (R.1 j).toInt = 1 := by
      rcases hso2 with e | e | e <;> rw [e] <;> decide
    have eni : (nI n).toInt = (n : Int) := i_nI (by omega)
    have enj : (nI n2).toInt = (n2 : Int) := i_nI (by omega)
    have eF : F_copy R (nI i) p (nI j) t m = if (R.1 i).toInt < 0 ∨ (R.1 j).toInt < 0 then (-1000000011, R) else if ¬ (R.1 i).toInt = (R.1 j).toInt then (-1000000012, R) else if p.toInt < 0 ∨ t.toInt < 0 ∨ m.toInt < 0 ∨ (n : Int) < p.toInt + m.toInt ∨ (n2 : Int) < t.toInt + m.toInt then (-1000000013, R) else (m, (R.1, R.2.1, va_cpy R.2.2 R.2.2 (24 * i + p.toNatClampNeg) (24 * j + t.toNatClampNeg) m.toNatClampNeg)) := by
      rw [F_copy, if_neg (fun h => h hk), eic, ejc, en, en2, eni, enj]
    rw [eF] at hQ
    have K72 : ¬ ((R.1 i).toInt < 0 ∨ (R.1 j).toInt < 0) → (R.1 i).toInt = (R.1 j).toInt → RR g RX8 cX8_copy 8 (some .int) "copy" 2 0 0 0 0 72 [some (.ref (gb g + 0)), some (.int (nI i)), some (.int p), some (.int (nI j)), some (.int t), some (.int m), some (.ref (gb g + (50 + 2 * i))), some (.ref (gb g + (50 + 2 * j)))] [] w Q := by
      intro q1 q2
      rw [if_neg q1, if_neg (fun h => h q2)] at hQ
      by_cases hx : p.toInt < 0 ∨ t.toInt < 0 ∨ m.toInt < 0 ∨ (n : Int) < p.toInt + m.toInt ∨ (n2 : Int) < t.toInt + m.toInt
      · rw [if_pos hx] at hQ
        refine jr_aload dX8_copy_72 rfl ?_
        refine jr_iload_n dX8_copy_74 rfl ?_
        refine jr_iload dX8_copy_75 rfl ?_
        refine jc_Vi (c_hasRun g _ _ hCi n hn (by rw [z2, en]) _ _) lkX8_286 hCi.1 rfl rfl (Nat.le_of_ble_eq_true rfl) (Nat.le_of_ble_eq_true rfl) dX8_copy_77 (fun r_77 w_77 h_77 => ?_)
        obtain ⟨rfl, rfl⟩ := h_77
        refine jr_if_eq 95 dX8_copy_80 (by decide) (fun c_80 => ?_) (fun c_80 => ?_)
        · rw [jb_0] at c_80
          refine jr_ldcw (-1000000013) ckX8_274 dX8_copy_95 ?_
          refine jr_iret rfl dX8_copy_98 ?_
          exact hQ _ _ ⟨rfl, CH.rf hR⟩
        · rw [jb_1] at c_80
          refine jr_aload dX8_copy_83 rfl ?_
          refine jr_iload dX8_copy_85 rfl ?_
          refine jr_iload dX8_copy_87 rfl ?_
          refine jc_Vi (c_hasRun g _ _ hCj n2 hn2 (by rw [y2, en2]) _ _) lkX8_286 hCj.1 rfl rfl (Nat.le_of_ble_eq_true rfl) (Nat.le_of_ble_eq_true rfl) dX8_copy_89 (fun r_89 w_89 h_89 => ?_)
          obtain ⟨rfl, rfl⟩ := h_89
          refine jr_if_ne 99 dX8_copy_92 (by decide) (fun c_92 => ?_) (fun c_92 => ?_)
          · rw [jb_1] at c_92
            exfalso; omega
          · rw [jb_0] at c_92
            refine jr_ldcw (-1000000013) ckX8_274 dX8_copy_95 ?_
            refine jr_iret rfl dX8_copy_98 ?_
            exact hQ _ _ ⟨rfl, CH.rf hR⟩
      · rw [if_neg hx] at hQ
        obtain ⟨p0, hp0, ep⟩ := i_of (n := 25) (x := p) (by omega) (by omega)
        obtain ⟨t0, ht0, et⟩ := i_of (n := 25) (x := t) (by omega) (by omega)
        obtain ⟨m0, hm0, em⟩ := i_of (n := 25) (x := m) (by omega) (by omega)
        have epi : p.toInt = (p0 : Int) := by rw [ep, i_nI (by omega)]
        have eti : t.toInt = (t0 : Int) := by rw [et, i_nI (by omega)]
        have emi : m.toInt = (m0 : Int) := by rw [em, i_nI (by omega)]
        have epc : p.toNatClampNeg = p0 := by rw [ep, nI_clamp (by omega)]
        have etc : t.toNatClampNeg = t0 := by rw [et, nI_clamp (by omega)]
        have emc : m.toNatClampNeg = m0 := by rw [em, nI_clamp (by omega)]
        rw [epc, etc, emc] at hQ
        refine jr_aload dX8_copy_72 rfl ?_
        refine jr_iload_n dX8_copy_74 rfl ?_
        refine jr_iload dX8_copy_75 rfl ?_
        refine jc_Vi (c_hasRun g _ _ hCi n hn (by rw [z2, en]) _ _) lkX8_286 hCi.1 rfl rfl (Nat.le_of_ble_eq_true rfl) (Nat.le_of_ble_eq_true rfl) dX8_copy_77 (fun r_77 w_77 h_77 => ?_)
        obtain ⟨rfl, rfl⟩ := h_77
        refine jr_if_eq 95 dX8_copy_80 (by decide) (fun c_80 => ?_) (fun c_80 => ?_)
        · rw [jb_0] at c_80
          exfalso; omega
        · rw [jb_1] at c_80
          refine jr_aload dX8_copy_83 rfl ?_
          refine jr_iload dX8_copy_85 rfl ?_
          refine jr_iload dX8_copy_87 rfl ?_
          refine jc_Vi (c_hasRun g _ _ hCj n2 hn2 (by rw [y2, en2]) _ _) lkX8_286 hCj.1 rfl rfl (Nat.le_of_ble_eq_true rfl) (Nat.le_of_ble_eq_true rfl) dX8_copy_89 (fun r_89 w_89 h_89 => ?_)
          obtain ⟨rfl, rfl⟩ := h_89
          refine jr_if_ne 99 dX8_copy_92 (by decide) (fun c_92 => ?_) (fun c_92 => ?_)
          · rw [jb_1] at c_92
            refine jr_aload dX8_copy_99 rfl ?_
            refine gfX8_275 ((50 + 2 * i) + 1) dX8_copy_101 hCi.1 hCi.2.2 ?_
            refine jr_iload_n dX8_copy_104 rfl ?_
            refine jr_aload dX8_copy_105 rfl ?_
            refine gfX8_275 ((50 + 2 * j) + 1) dX8_copy_107 hCj.1 hCj.2.2 ?_
            refine jr_iload dX8_copy_110 rfl ?_
            refine jr_iload dX8_copy_112 rfl ?_
            refine jr_acopy p0 t0 m0 lkX8_289 ac_nat ac_stt ac_ini hCi.2.1 hCj.2.1 ep et em ⟨by omega, by omega, by decide, by decide⟩ (Nat.le_of_ble_eq_true rfl) (Nat.le_of_ble_eq_true rfl) dX8_copy_114 ?_
            refine jr_iload dX8_copy_117 rfl ?_
            refine jr_iret rfl dX8_copy_119 ?_
            refine hQ _ _ ⟨rfl, fun l hl => ?_, Sm.sR (by unfold scSh; omega)⟩
            obtain ⟨x1, x2, x3⟩ := hR l hl
            rw [wI_sR_n _ (by omega)]
            refine ⟨x1, x2, fun q hq => ?_⟩
            show _ = va_cpy R.2.2 R.2.2 (24 * i + p0) (24 * j + t0) m0 (24 * l + q)
            by_cases e : l = j
            · subst e
              rw [wI_sR_s]
              by_cases c : t0 ≤ q ∧ q < t0 + m0
              · rw [pk_cpy_in c.1 c.2, pk_cpy_in (by omega) (by omega), z3 _ (by omega)]
                exact congrArg R.2.2 (by omega)
              · rw [pk_cpy_out (by omega), pk_cpy_out (by omega)]
                exact x3 q hq
            · rw [wI_sR_n _ (by omega), pk_cpy_out (by omega)]
              exact x3 q hq
          · rw [jb_0] at c_92
            exfalso; omega
    refine jr_iload_n dX8_copy_0 rfl ?_
    refine jr_iconst (4) dX8_copy_1 (by decide) ?_
    refine jc_Si (c_wi g _ _ _ 4 rfl) lkX8_76 rfl rfl (Nat.le_of_ble_eq_true rfl) (Nat.le_of_ble_eq_true rfl) dX8_copy_2 (fun r_2 w_2 h_2 => ?_)
    obtain ⟨rfl, rfl⟩ := h_2
    refine jr_if_eq 16 dX8_copy_5 (by decide) (fun c_5 => absurd c_5 (jb_1.mpr hk.1)) (fun c_5 => ?_)
    refine jr_iload_n dX8_copy_8 rfl ?_
    refine jr_iconst (4) dX8_copy_9 (by decide) ?_
    refine jc_Si (c_wi g _ _ _ 4 rfl) lkX8_76 rfl rfl (Nat.le_of_ble_eq_true rfl) (Nat.le_of_ble_eq_true rfl) dX8_copy_10 (fun r_10 w_10 h_10 => ?_)
    obtain ⟨rfl, rfl⟩ := h_10
    refine jr_if_ne 19 dX8_copy_13 (by decide) (fun c_13 => ?_) (fun c_13 => absurd c_13 (jb_1.mpr hk.2))
    refine jr_aload_n dX8_copy_19 rfl ?_
    refine gfX8_64 48 dX8_copy_20 (hw.k rfl) (hw.f rfl) ?_
    refine jr_iload_n dX8_copy_23 rfl ?_
    refine jr_aald i (hw.k rfl) (by decide) rfl ⟨hi, by decide⟩ (by rw [shf hw hi, jrf_s]) dX8_copy_24 ?_
    refine jr_astore_6 dX8_copy_25 (by decide) rfl ?_
    refine jr_aload_n dX8_copy_27 rfl ?_
    refine gfX8_64 48 dX8_copy_28 (hw.k rfl) (hw.f rfl) ?_
    refine jr_iload_n dX8_copy_31 rfl ?_
    refine jr_aald j (hw.k rfl) (by decide) rfl ⟨hj, by decide⟩ (by rw [shf hw hj, jrf_s]) dX8_copy_32 ?_
    refine jr_astore_7 dX8_copy_33 (by decide) rfl ?_
    refine jr_aload dX8_copy_35 rfl ?_
    refine gfX8_209 dX8_copy_37 hCi.1 ?_
    rw [z1]
    refine jr_iconst (-1) dX8_copy_40 (by decide) ?_
    refine jr_icmp_eq 53 dX8_copy_41 (by decide) (fun c_41 => ?_) (fun c_41 => ?_)
    · simp only [lt_i, le_i, eq_i, Int32.reduceToInt] at c_41
      refine jr_ldc (-1000000011) ckX8_212 dX8_copy_53 ?_
      refine jr_iret rfl dX8_copy_55 ?_
      exact hQ _ _ ⟨by rw [if_pos (by omega)], by rw [if_pos (by omega)]; exact CH.rf hR⟩
    · simp only [lt_i, le_i, eq_i, Int32.reduceToInt] at c_41
      refine jr_aload dX8_copy_44 rfl ?_
      refine gfX8_209 dX8_copy_46 hCj.1 ?_
      rw [y1]
      refine jr_iconst (-1) dX8_copy_49 (by decide) ?_
      refine jr_icmp_ne 56 dX8_copy_50 (by decide) (fun c_50 => ?_) (fun c_50 => ?_)
      · simp only [lt_i, le_i, eq_i, Int32.reduceToInt] at c_50
        refine jr_aload dX8_copy_56 rfl ?_
        refine gfX8_209 dX8_copy_58 hCi.1 ?_
        rw [z1]
        refine jr_aload dX8_copy_61 rfl ?_
        refine gfX8_209 dX8_copy_63 hCj.1 ?_
        rw [y1]
        refine jr_icmp_eq 72 dX8_copy_66 (by decide) (fun c_66 => ?_) (fun c_66 => ?_)
        · simp only [lt_i, le_i, eq_i, Int32.reduceToInt] at c_66
          exact K72 (by omega) (by omega)
        · simp only [lt_i, le_i, eq_i, Int32.reduceToInt] at c_66
          refine jr_ldc (-1000000012) ckX8_126 dX8_copy_69 ?_
          refine jr_iret rfl dX8_copy_71 ?_
          exact hQ _ _ ⟨by rw [if_neg (by omega), if_pos (by omega)], by rw [if_neg (by omega), if_pos (by omega)]; exact CH.rf hR⟩
      · simp only [lt_i, le_i, eq_i, Int32.reduceToInt] at c_50
        refine jr_ldc (-1000000011) ckX8_212 dX8_copy_53 ?_
        refine jr_iret rfl dX8_copy_55 ?_
        exact hQ _ _ ⟨by rw [if_pos (by omega)], by rw [if_pos (by omega)]; exact CH.rf hR⟩
  · refine jr_iload_n dX8_copy_0 rfl ?_
    refine jr_iconst (4) dX8_copy_1 (by decide) ?_
    refine jc_Si (c_wi g _ _ _ 4 rfl) lkX8_76 rfl rfl (Nat.le_of_ble_eq_true rfl) (Nat.le_of_ble_eq_true rfl) dX8_copy_2 (fun r_2 w_2 h_2 => ?_)
    obtain ⟨rfl, rfl⟩ := h_2
    refine jr_if_eq 16 dX8_copy_5 (by decide) (fun c_5 => ?_) (fun c_5 => ?_)
    · rw [jb_0] at c_5
      refine jr_ldc (-1000000001) ckX8_80 dX8_copy_16 ?_
      refine jr_iret rfl dX8_copy_18 ?_
      exact hQ _ _ ⟨by rw [F_copy, if_pos hk], by rw [F_copy, if_pos hk]; exact CH.rf hR⟩
    · rw [jb_1] at c_5
      refine jr_iload_n dX8_copy_8 rfl ?_
      refine jr_iconst (4) dX8_copy_9 (by decide) ?_
      refine jc_Si (c_wi g _ _ _ 4 rfl) lkX8_76 rfl rfl (Nat.le_of_ble_eq_true rfl) (Nat.le_of_ble_eq_true rfl) dX8_copy_10 (fun r_10 w_10 h_10 => ?_)
      obtain ⟨rfl, rfl⟩ := h_10
      refine jr_if_ne 19 dX8_copy_13 (by decide) (fun c_13 => ?_) (fun c_13 => ?_)
      · rw [jb_1] at c_13
        exfalso; exact hk ⟨c_5, c_13⟩
      · rw [jb_0] at c_13
        refine jr_ldc (-1000000001) ckX8_80 dX8_copy_16 ?_
        refine jr_iret rfl dX8_copy_18 ?_
        exact hQ _ _ ⟨by rw [F_copy, if_pos hk], by rw [F_copy, if_pos hk]; exact CH.rf hR⟩
theorem prS_X (tn : Nat → Int32) (q : Nat) (s : Nat → Int32) : ∀ k, k ≤ 6 → SameX s (prS tn q s k).1
  | 0, _ => ⟨rfl, fun _ _ _ _ _ => rfl⟩
  | k + 1, h => (prS_X tn q s k (by omega)).tr (SameX_u (by omega) (by omega))
theorem held_wi (v : Int32) : (if (0 : Int32).toInt < (if v.toInt < (59 : Int32).toInt then v else 59).toInt then (if v.toInt < (59 : Int32).toInt then v else 59) else 0) = wiI v := by
  have e59 : (59 : Int32).toInt = 59 := rfl
  have e0 : (0 : Int32).toInt = 0 := rfl
  rw [e59, e0, wiI]
  by_cases c : v.toInt < 59
  · rw [if_pos c]
    by_cases c2 : 0 < v.toInt
    · rw [if_pos c2, if_neg (by omega), if_neg (by omega)]
    · rw [if_neg c2]
      by_cases c3 : v.toInt < 0
      · rw [if_pos c3]
      · rw [if_neg c3, if_neg (by omega), eq_i]
        show (0 : Int) = v.toInt
        omega
  · rw [if_neg c, if_pos (by decide), if_neg (by omega)]
    by_cases c3 : 59 < v.toInt
    · rw [if_pos c3]
    · rw [if_neg c3, eq_i]
      show (59 : Int) = v.toInt
      omega
def scPo : Nat → Prop := fun i => 6 ≤ i ∧ i ≤ 11
theorem p_pour (g : Cx) (w : Wd) (hw : Wf w) (s : Nat → Int32) (hG : Gd s) (hN : NR w 1 s) (R : Sh) (hR : ShR w R) (hO : ShOk R) (k : Int32) : CI g yX8_pour cX8_pour 6 (some .int) 3 0 0 [.ref (gb g + 0), .int k] w (fun r w' => r = (F_pour R s k).1 ∧ CN w w' (F_pour R s k).2) := by
  obtain ⟨h0, -, hmi, -, -, -, hC, -, hX⟩ := id hG
  have h6 := h0.2
  refine CI.of (own := RX8) (nm := "pour") (lv := [some (.ref (gb g + 0)), some (.int k), none, none, none, none]) (by decide) rfl rfl (Nat.le_of_ble_eq_true rfl) rfl (fun Q hQ => ?_)
  by_cases hk : isS k
  · obtain ⟨q, hq, eq⟩ := i_of (n := 4) (x := k) hk.1 hk.2
    subst eq
    have eqc : (nI q).toNatClampNeg = q := nI_clamp (by omega)
    have hCq := shc hw hq
    obtain ⟨z1, z2, z3⟩ := hR q hq
    obtain ⟨hso, n, hn, en⟩ := hO q hq
    have hsoi : (R.1 q).toInt = -1 ∨ (R.1 q).toInt = 0 ∨ (R.1 q).toInt = 1 := by
      rcases hso with e | e | e <;> rw [e] <;> decide
    have esz : sN R.2.1 q = n := sN_of en (by omega)
    have eF : F_pour R s (nI q) = if (R.1 q).toInt < 0 then (-1000000011, s) else (nI (prS R.2.2 q s (min n (sN s 0))).2, (prS R.2.2 q s (min n (sN s 0))).1) := by
      rw [F_pour, if_neg (fun h => h hk), eqc, esz]
    rw [eF] at hQ
    obtain ⟨M, eM⟩ : ∃ M, M = min n (sN s 0) := ⟨_, rfl⟩
    rw [← eM] at hQ
    have L : ¬ (R.1 q).toInt < 0 → ∀ (f i : Nat) (w1 : Wd) (a5 : Option Value), f + i = M → NR w1 1 (prS R.2.2 q s i).1 → Sm scPo w w1 → RR g RX8 cX8_pour 6 (some .int) "pour" 3 0 0 0 0 34 [some (.ref (gb g + 0)), some (.int (nI q)), some (.ref (gb g + (50 + 2 * q))), some (.int (nI (prS R.2.2 q s i).2)), some (.int (nI i)), a5] [] w1 Q := by
      intro hnn f
      rw [if_neg hnn] at hQ
      induction f with
      | zero =>
        intro i w1 a5 hi hN1 hS
        have e : i = M := by omega
        subst e
        have hw1 := hS.wf hw
        have r1 : wI w1 (50 + 2 * q) = wI w (50 + 2 * q) := hS.row (by unfold scPo; omega)
        have e0 : (prS R.2.2 q s i).1 0 = nI (sN s 0) := by rw [prS_0]; exact h0.1
        have esi : (nI (sN s 0)).toInt = (sN s 0 : Int) := i_nI (by omega)
        have eni : (nI n).toInt = (n : Int) := i_nI (by omega)
        have eii : (nI i).toInt = (i : Int) := i_nI (by omega)
        refine jr_iload dX8_pour_34 rfl ?_
        refine jr_aload_n dX8_pour_36 rfl ?_
        refine gfX8_12 1 dX8_pour_37 (hw1.k rfl) (hw1.f rfl) ?_
        refine gfX8_81 dX8_pour_40 (hw1.k rfl) ?_
        rw [hN1.1.1, e0]
        refine jr_icmp_ge 137 dX8_pour_43 (by decide) (fun c_43 => ?_) (fun c_43 => ?_)
        · simp only [lt_i, le_i, eq_i, Int32.reduceToInt] at c_43
          refine jr_iload_n dX8_pour_137 rfl ?_
          refine jr_iret rfl dX8_pour_138 ?_
          exact hQ _ _ ⟨rfl, hN1, hS.mono (fun i h => by unfold scPo at h; unfold scX; omega)⟩
        · simp only [lt_i, le_i, eq_i, Int32.reduceToInt] at c_43
          refine jr_iload dX8_pour_46 rfl ?_
          refine jr_aload_n dX8_pour_48 rfl ?_
          refine gfX8_271 dX8_pour_49 (shc hw1 hq).1 ?_
          rw [r1, z2, en]
          refine jr_icmp_ge 137 dX8_pour_52 (by decide) (fun c_52 => ?_) (fun c_52 => ?_)
          · simp only [lt_i, le_i, eq_i, Int32.reduceToInt] at c_52
            refine jr_iload_n dX8_pour_137 rfl ?_
            refine jr_iret rfl dX8_pour_138 ?_
            exact hQ _ _ ⟨rfl, hN1, hS.mono (fun i h => by unfold scPo at h; unfold scX; omega)⟩
          · simp only [lt_i, le_i, eq_i, Int32.reduceToInt] at c_52
            exfalso; omega
      | succ f ih =>
        intro i w1 a5 hi hN1 hS
        have hw1 := hS.wf hw
        have hi6 : i < 6 := by omega
        have r1 : wI w1 (50 + 2 * q) = wI w (50 + 2 * q) := hS.row (by unfold scPo; omega)
        have r2 : wI w1 (50 + 2 * q + 1) = wI w (50 + 2 * q + 1) := hS.row (by unfold scPo; omega)
        have e0 : (prS R.2.2 q s i).1 0 = nI (sN s 0) := by rw [prS_0]; exact h0.1
        have hX1 := (prS_X R.2.2 q s i (by omega)).okAll hX
        obtain ⟨P, eP⟩ : ∃ P, P = prS R.2.2 q s i := ⟨_, rfl⟩
        have eP2 : prS R.2.2 q s (i + 1) = (upd P.1 (10 + 3 * i + 1) (if R.2.2 (24 * q + i) = -1000000005 then P.1 (10 + 3 * i + 1) else wiI (R.2.2 (24 * q + i))), P.2 + (if (if R.2.2 (24 * q + i) = -1000000005 then P.1 (10 + 3 * i + 1) else wiI (R.2.2 (24 * q + i))) = P.1 (10 + 3 * i + 1) then 0 else 1)) := by rw [eP]; rfl
        rw [← eP] at hN1 hX1 e0 ⊢
        obtain ⟨q0, q1, q2⟩ := hN1.2.2.1 i hi6
        obtain ⟨y, ey⟩ : ∃ y, y = (if R.2.2 (24 * q + i) = -1000000005 then P.1 (10 + 3 * i + 1) else wiI (R.2.2 (24 * q + i))) := ⟨_, rfl⟩
        rw [← ey] at eP2
        have K93 : RR g RX8 cX8_pour 6 (some .int) "pour" 3 0 0 0 0 93 [some (.ref (gb g + 0)), some (.int (nI q)), some (.ref (gb g + (50 + 2 * q))), some (.int (nI P.2)), some (.int (nI i)), a5] [.int y] w1 Q := by
          by_cases hy : y = P.1 (10 + 3 * i + 1)
          · have h9 := ih (i + 1) w1 (some (.int y)) (by omega)
            rw [eP2, if_pos hy, hy, upd_id, Nat.add_zero] at h9
            have h8 := h9 hN1 hS
            rw [hy]
            refine jr_istore_5 dX8_pour_93 (by decide) rfl ?_
            refine jr_iload dX8_pour_95 rfl ?_
            refine jr_aload_n dX8_pour_97 rfl ?_
            refine gfX8_12 1 dX8_pour_98 (hw1.k rfl) (hw1.f rfl) ?_
            refine gfX8_93 2 dX8_pour_101 (hw1.k rfl) (hw1.f rfl) ?_
            refine jr_iload dX8_pour_104 rfl ?_
            refine jr_aald i (hw1.k rfl) (by decide) rfl ⟨hi6, by decide⟩ (by rw [rk1 hw1 hi6, jrf_s]) dX8_pour_106 ?_
            refine gfX8_102 dX8_pour_107 (NA1.k hw1 hi6) ?_
            rw [q1]
            refine jr_icmp_eq 131 dX8_pour_110 (by decide) (fun c_110 => ?_) (fun c_110 => absurd rfl c_110)
            refine jr_iinc_4 (nI (i + 1)) dX8_pour_131 (inc1 i) (by decide) rfl ?_
            refine jr_goto 34 dX8_pour_134 (by decide) ?_
            exact h8
          · have h9 := ih (i + 1) (sR w1 (1 + 5 + i) (upd (wI w1 (1 + 5 + i)) 1 y)) (some (.int y)) (by omega)
            rw [eP2, if_neg hy] at h9
            have h8 := h9 (hN1.clk NA1 hX1 hi6 (by decide) y) (hS.tr (Sm.sR (by unfold scPo; omega)))
            refine jr_istore_5 dX8_pour_93 (by decide) rfl ?_
            refine jr_iload dX8_pour_95 rfl ?_
            refine jr_aload_n dX8_pour_97 rfl ?_
            refine gfX8_12 1 dX8_pour_98 (hw1.k rfl) (hw1.f rfl) ?_
            refine gfX8_93 2 dX8_pour_101 (hw1.k rfl) (hw1.f rfl) ?_
            refine jr_iload dX8_pour_104 rfl ?_
            refine jr_aald i (hw1.k rfl) (by decide) rfl ⟨hi6, by decide⟩ (by rw [rk1 hw1 hi6, jrf_s]) dX8_pour_106 ?_
            refine gfX8_102 dX8_pour_107 (NA1.k hw1 hi6) ?_
            rw [q1]
            refine jr_icmp_eq 131 dX8_pour_110 (by decide) (fun c_110 => absurd c_110 hy) (fun c_110 => ?_)
            refine jr_aload_n dX8_pour_113 rfl ?_
            refine gfX8_12 1 dX8_pour_114 (hw1.k rfl) (hw1.f rfl) ?_
            refine gfX8_93 2 dX8_pour_117 (hw1.k rfl) (hw1.f rfl) ?_
            refine jr_iload dX8_pour_120 rfl ?_
            refine jr_aald i (hw1.k rfl) (by decide) rfl ⟨hi6, by decide⟩ (by rw [rk1 hw1 hi6, jrf_s]) dX8_pour_122 ?_
            refine jr_iload dX8_pour_123 rfl ?_
            refine pfX8_102 dX8_pour_125 (NA1.k hw1 hi6) ?_
            refine jr_iinc_3 (nI (P.2 + 1)) dX8_pour_128 (inc1 _) (by decide) rfl ?_
            refine jr_iinc_4 (nI (i + 1)) dX8_pour_131 (inc1 i) (by decide) rfl ?_
            refine jr_goto 34 dX8_pour_134 (by decide) ?_
            exact h8
        by_cases hnone : R.2.2 (24 * q + i) = -1000000005
        · rw [if_pos hnone] at ey
          rw [ey] at K93
          refine jr_iload dX8_pour_34 rfl ?_
          refine jr_aload_n dX8_pour_36 rfl ?_
          refine gfX8_12 1 dX8_pour_37 (hw1.k rfl) (hw1.f rfl) ?_
          refine gfX8_81 dX8_pour_40 (hw1.k rfl) ?_
          rw [hN1.1.1, e0]
          refine jr_icmp_ge 137 dX8_pour_43 (by decide) (fun c_43 => absurd c_43 (nI_ge (by omega) (by omega))) (fun c_43 => ?_)
          refine jr_iload dX8_pour_46 rfl ?_
          refine jr_aload_n dX8_pour_48 rfl ?_
          refine gfX8_271 dX8_pour_49 (shc hw1 hq).1 ?_
          rw [r1, z2, en]
          refine jr_icmp_ge 137 dX8_pour_52 (by decide) (fun c_52 => absurd c_52 (nI_ge (by omega) (by omega))) (fun c_52 => ?_)
          refine jr_aload_n dX8_pour_55 rfl ?_
          refine jr_iload dX8_pour_56 rfl ?_
          refine jc_Vi (c_isNumber g _ _ (shc hw1 hq) n i hn (by omega) (by rw [r1, z2, en])) lkX8_280 (shc hw1 hq).1 rfl rfl (Nat.le_of_ble_eq_true rfl) (Nat.le_of_ble_eq_true rfl) dX8_pour_58 (fun r_58 w_58 h_58 => ?_)
          obtain ⟨rfl, rfl⟩ := h_58
          refine jr_if_eq 80 dX8_pour_61 (by decide) (fun c_61 => ?_) (fun c_61 => absurd (jb_f (fun h => h.2 (by rw [r2, z3 i (by omega)]; exact hnone))) c_61)
          refine jr_aload_n dX8_pour_80 rfl ?_
          refine gfX8_12 1 dX8_pour_81 (hw1.k rfl) (hw1.f rfl) ?_
          refine gfX8_93 2 dX8_pour_84 (hw1.k rfl) (hw1.f rfl) ?_
          refine jr_iload dX8_pour_87 rfl ?_
          refine jr_aald i (hw1.k rfl) (by decide) rfl ⟨hi6, by decide⟩ (by rw [rk1 hw1 hi6, jrf_s]) dX8_pour_89 ?_
          refine gfX8_102 dX8_pour_90 (NA1.k hw1 hi6) ?_
          rw [q1]
          exact K93
        · rw [if_neg hnone] at ey
          rw [ey] at K93
          refine jr_iload dX8_pour_34 rfl ?_
          refine jr_aload_n dX8_pour_36 rfl ?_
          refine gfX8_12 1 dX8_pour_37 (hw1.k rfl) (hw1.f rfl) ?_
          refine gfX8_81 dX8_pour_40 (hw1.k rfl) ?_
          rw [hN1.1.1, e0]
          refine jr_icmp_ge 137 dX8_pour_43 (by decide) (fun c_43 => absurd c_43 (nI_ge (by omega) (by omega))) (fun c_43 => ?_)
          refine jr_iload dX8_pour_46 rfl ?_
          refine jr_aload_n dX8_pour_48 rfl ?_
          refine gfX8_271 dX8_pour_49 (shc hw1 hq).1 ?_
          rw [r1, z2, en]
          refine jr_icmp_ge 137 dX8_pour_52 (by decide) (fun c_52 => absurd c_52 (nI_ge (by omega) (by omega))) (fun c_52 => ?_)
          refine jr_aload_n dX8_pour_55 rfl ?_
          refine jr_iload dX8_pour_56 rfl ?_
          refine jc_Vi (c_isNumber g _ _ (shc hw1 hq) n i hn (by omega) (by rw [r1, z2, en])) lkX8_280 (shc hw1 hq).1 rfl rfl (Nat.le_of_ble_eq_true rfl) (Nat.le_of_ble_eq_true rfl) dX8_pour_58 (fun r_58 w_58 h_58 => ?_)
          obtain ⟨rfl, rfl⟩ := h_58
          refine jr_if_eq 80 dX8_pour_61 (by decide) (fun c_61 => absurd c_61 (jb_1.mpr ⟨by omega, fun h => hnone (by rw [← z3 i (by omega), ← r2]; exact h)⟩)) (fun c_61 => ?_)
          refine jr_aload_n dX8_pour_64 rfl ?_
          refine gfX8_275 ((50 + 2 * q) + 1) dX8_pour_65 (shc hw1 hq).1 (shc hw1 hq).2.2 ?_
          refine jr_iload dX8_pour_68 rfl ?_
          refine jr_iald i (shc hw1 hq).2.1 rfl ⟨by omega, by decide⟩ dX8_pour_70 ?_
          rw [r2, z3 i (by omega)]
          refine jr_iconst (0) dX8_pour_71 (by decide) ?_
          refine jr_bipush (59) dX8_pour_72 (by decide) ?_
          refine jc_Si (c_held g _ _ _ _) lkX8_283 rfl rfl (Nat.le_of_ble_eq_true rfl) (Nat.le_of_ble_eq_true rfl) dX8_pour_74 (fun r_74 w_74 h_74 => ?_)
          obtain ⟨rfl, rfl⟩ := h_74
          rw [held_wi]
          refine jr_goto 93 dX8_pour_77 (by decide) ?_
          exact K93
    refine jr_iload_n dX8_pour_0 rfl ?_
    refine jr_iconst (4) dX8_pour_1 (by decide) ?_
    refine jc_Si (c_wi g _ _ _ 4 rfl) lkX8_76 rfl rfl (Nat.le_of_ble_eq_true rfl) (Nat.le_of_ble_eq_true rfl) dX8_pour_2 (fun r_2 w_2 h_2 => ?_)
    obtain ⟨rfl, rfl⟩ := h_2
    refine jr_if_ne 11 dX8_pour_5 (by decide) (fun c_5 => ?_) (fun c_5 => absurd c_5 (jb_1.mpr hk))
    refine jr_aload_n dX8_pour_11 rfl ?_
    refine gfX8_64 48 dX8_pour_12 (hw.k rfl) (hw.f rfl) ?_
    refine jr_iload_n dX8_pour_15 rfl ?_
    refine jr_aald q (hw.k rfl) (by decide) rfl ⟨hq, by decide⟩ (by rw [shf hw hq, jrf_s]) dX8_pour_16 ?_
    refine jr_astore_2 dX8_pour_17 (by decide) rfl ?_
    refine jr_aload_n dX8_pour_18 rfl ?_
    refine gfX8_209 dX8_pour_19 hCq.1 ?_
    rw [z1]
    refine jr_iconst (-1) dX8_pour_22 (by decide) ?_
    refine jr_icmp_ne 29 dX8_pour_23 (by decide) (fun c_23 => ?_) (fun c_23 => ?_)
    · simp only [lt_i, le_i, eq_i, Int32.reduceToInt] at c_23
      refine jr_iconst (0) dX8_pour_29 (by decide) ?_
      refine jr_istore_3 dX8_pour_30 (by decide) rfl ?_
      refine jr_iconst (0) dX8_pour_31 (by decide) ?_
      refine jr_istore_4 dX8_pour_32 (by decide) rfl ?_
      exact L (by omega) M 0 w _ rfl hN Sm.rf
    · simp only [lt_i, le_i, eq_i, Int32.reduceToInt] at c_23
      refine jr_ldc (-1000000011) ckX8_212 dX8_pour_26 ?_
      refine jr_iret rfl dX8_pour_28 ?_
      exact hQ _ _ ⟨by rw [if_pos (by omega)], by rw [if_pos (by omega)]; exact CN.rf hN⟩
  · refine jr_iload_n dX8_pour_0 rfl ?_
    refine jr_iconst (4) dX8_pour_1 (by decide) ?_
    refine jc_Si (c_wi g _ _ _ 4 rfl) lkX8_76 rfl rfl (Nat.le_of_ble_eq_true rfl) (Nat.le_of_ble_eq_true rfl) dX8_pour_2 (fun r_2 w_2 h_2 => ?_)
    obtain ⟨rfl, rfl⟩ := h_2
    refine jr_if_ne 11 dX8_pour_5 (by decide) (fun c_5 => absurd (jb_f hk) c_5) (fun c_5 => ?_)
    refine jr_ldc (-1000000001) ckX8_80 dX8_pour_8 ?_
    refine jr_iret rfl dX8_pour_10 ?_
    exact hQ _ _ ⟨by rw [F_pour, if_pos hk], by rw [F_pour, if_pos hk]; exact CN.rf hN⟩
theorem p_reads (g : Cx) (w : Wd) (hw : Wf w) (s : Nat → Int32) (hG : Gd s) (hN : NR w 1 s) (R : Sh) (hR : ShR w R) (hO : ShOk R) (k : Int32) : CI g yX8_reads cX8_reads 6 (some .int) 5 0 0 [.ref (gb g + 0), .int k] w (fun r w' => r = F_reads R s k ∧ CN w w' s) := by
  obtain ⟨h0, -, hmi, -, -, -, hC, -, hX⟩ := id hG
  have h6 := h0.2
  refine CI.of (own := RX8) (nm := "reads") (lv := [some (.ref (gb g + 0)), some (.int k), none, none, none, none]) (by decide) rfl rfl (Nat.le_of_ble_eq_true rfl) rfl (fun Q hQ => ?_)
  by_cases hk : isS k
  · obtain ⟨q, hq, eq⟩ := i_of (n := 4) (x := k) hk.1 hk.2
    subst eq
    have eqc : (nI q).toNatClampNeg = q := nI_clamp (by omega)
    have hCq := shc hw hq
    obtain ⟨z1, z2, z3⟩ := hR q hq
    obtain ⟨hso, n, hn, en⟩ := hO q hq
    have hsoi : (R.1 q).toInt = -1 ∨ (R.1 q).toInt = 0 ∨ (R.1 q).toInt = 1 := by
      rcases hso with e | e | e <;> rw [e] <;> decide
    have esz : sN R.2.1 q = n := sN_of en (by omega)
    have eF : F_reads R s (nI q) = if (R.1 q).toInt < 0 then -1000000011 else if fstB (rdP s R.2.2 q) n < n then nI (fstB (rdP s R.2.2 q) n) else -1000000005 := by
      rw [F_reads, if_neg (fun h => h hk), eqc, esz]
    rw [eF] at hQ
    have hlt : sN s 2 % 720 < 720 := Nat.mod_lt _ (by decide)
    have L : ¬ (R.1 q).toInt < 0 → ∀ (f i : Nat) (w1 : Wd) (a5 : Option Value), f + i = n → (∀ j, j < i → rdP s R.2.2 q j = false) → Sm scK w w1 → RR g RX8 cX8_reads 6 (some .int) "reads" 5 0 0 0 0 40 [some (.ref (gb g + 0)), some (.int (nI q)), some (.ref (gb g + (50 + 2 * q))), some (.int (nI (sN s 2 % 720))), some (.int (nI i)), a5] [] w1 Q := by
      intro hnn f
      rw [if_neg hnn] at hQ
      induction f with
      | zero =>
        intro i w1 a5 hi hno hS
        have e : i = n := by omega
        subst e
        have hw1 := hS.wf hw
        have r1 : wI w1 (50 + 2 * q) = wI w (50 + 2 * q) := hS.row (scK_n (by omega))
        refine jr_iload dX8_reads_40 rfl ?_
        refine jr_aload_n dX8_reads_42 rfl ?_
        refine gfX8_271 dX8_reads_43 (shc hw1 hq).1 ?_
        rw [r1, z2, en]
        refine jr_icmp_ge 119 dX8_reads_46 (by decide) (fun c_46 => ?_) (fun c_46 => absurd (Int32.le_refl _) c_46)
        refine jr_ldc (-1000000005) ckX8_168 dX8_reads_119 ?_
        refine jr_iret rfl dX8_reads_121 ?_
        exact hQ _ _ ⟨by rw [fstB_none hno, if_neg (by omega)], CN.k hN hS⟩
      | succ f ih =>
        intro i w1 a5 hi hno hS
        have hw1 := hS.wf hw
        have hN1 := hN.k NA1 hS
        have r1 : wI w1 (50 + 2 * q) = wI w (50 + 2 * q) := hS.row (scK_n (by omega))
        have r2 : wI w1 (50 + 2 * q + 1) = wI w (50 + 2 * q + 1) := hS.row (scK_n (by omega))
        have eii : (nI i).toInt = (i : Int) := i_nI (by omega)
        have K94 : ∀ (w2 : Wd) (sm : Int32), Sm scK w w2 → (sm = 0 ∨ sm = 1) → (sm = 0 ↔ (sN s 0 ≤ i ∨ ¬ R.2.2 (24 * q + i) = nI (stkF s i (sN s 2 % 720)))) → RR g RX8 cX8_reads 6 (some .int) "reads" 5 0 0 0 0 94 [some (.ref (gb g + 0)), some (.int (nI q)), some (.ref (gb g + (50 + 2 * q))), some (.int (nI (sN s 2 % 720))), some (.int (nI i)), a5] [.int sm] w2 Q := by
          intro w2 sm hS2 hsm hiff
          have hw1 := hS2.wf hw
          have r1 : wI w2 (50 + 2 * q) = wI w (50 + 2 * q) := hS2.row (scK_n (by omega))
          have r2 : wI w2 (50 + 2 * q + 1) = wI w (50 + 2 * q + 1) := hS2.row (scK_n (by omega))
          have hp : rdP s R.2.2 q i = true ↔ (¬ R.2.2 (24 * q + i) = -1000000005 ∧ sm = 0) := by
            rw [hiff]
            exact decide_eq_true_iff
          by_cases hpp : rdP s R.2.2 q i = true
          · obtain ⟨u1, u2⟩ := hp.mp hpp
            refine jr_istore_5 dX8_reads_94 (by decide) rfl ?_
            refine jr_aload_n dX8_reads_96 rfl ?_
            refine jr_iload dX8_reads_97 rfl ?_
            refine jc_Vi (c_isNumber g _ _ (shc hw1 hq) n i hn (by omega) (by rw [r1, z2, en])) lkX8_280 (shc hw1 hq).1 rfl rfl (Nat.le_of_ble_eq_true rfl) (Nat.le_of_ble_eq_true rfl) dX8_reads_99 (fun r_99 w_99 h_99 => ?_)
            obtain ⟨rfl, rfl⟩ := h_99
            refine jr_if_eq 113 dX8_reads_102 (by decide) (fun c_102 => absurd c_102 (jb_1.mpr ⟨by omega, fun h => u1 (by rw [← z3 i (by omega), ← r2]; exact h)⟩)) (fun c_102 => ?_)
            refine jr_iload dX8_reads_105 rfl ?_
            refine jr_if_ne 113 dX8_reads_107 (by decide) (fun c_107 => absurd u2 c_107) (fun c_107 => ?_)
            refine jr_iload dX8_reads_110 rfl ?_
            refine jr_iret rfl dX8_reads_112 ?_
            exact hQ _ _ ⟨by rw [fstB_at hno hpp (by omega), if_pos (by omega)], CN.k hN hS2⟩
          · have h9 := ih (i + 1) w2 (some (.int sm)) (by omega) (fun j hj => by
              by_cases e : j = i
              · rw [e]; exact Bool.eq_false_iff.mpr hpp
              · exact hno j (by omega)) hS2
            refine jr_istore_5 dX8_reads_94 (by decide) rfl ?_
            refine jr_aload_n dX8_reads_96 rfl ?_
            refine jr_iload dX8_reads_97 rfl ?_
            refine jc_Vi (c_isNumber g _ _ (shc hw1 hq) n i hn (by omega) (by rw [r1, z2, en])) lkX8_280 (shc hw1 hq).1 rfl rfl (Nat.le_of_ble_eq_true rfl) (Nat.le_of_ble_eq_true rfl) dX8_reads_99 (fun r_99 w_99 h_99 => ?_)
            obtain ⟨rfl, rfl⟩ := h_99
            refine jr_if_eq 113 dX8_reads_102 (by decide) (fun c_102 => ?_) (fun c_102 => ?_)
            · rw [jb_0] at c_102
              refine jr_iinc_4 (nI (i + 1)) dX8_reads_113 (inc1 i) (by decide) rfl ?_
              refine jr_goto 40 dX8_reads_116 (by decide) ?_
              exact h9
            · rw [jb_1] at c_102
              refine jr_iload dX8_reads_105 rfl ?_
              refine jr_if_ne 113 dX8_reads_107 (by decide) (fun c_107 => ?_) (fun c_107 => ?_)
              · refine jr_iinc_4 (nI (i + 1)) dX8_reads_113 (inc1 i) (by decide) rfl ?_
                refine jr_goto 40 dX8_reads_116 (by decide) ?_
                exact h9
              · exfalso; exact hpp (hp.mpr ⟨fun h => c_102.2 (by rw [r2, z3 i (by omega)]; exact h), c_107⟩)
        by_cases hc : i < sN s 0
        · have hi6 : i < 6 := by omega
          refine jr_iload dX8_reads_40 rfl ?_
          refine jr_aload_n dX8_reads_42 rfl ?_
          refine gfX8_271 dX8_reads_43 (shc hw1 hq).1 ?_
          rw [r1, z2, en]
          refine jr_icmp_ge 119 dX8_reads_46 (by decide) (fun c_46 => absurd c_46 (nI_ge (by omega) (by omega))) (fun c_46 => ?_)
          refine jr_aload_n dX8_reads_49 rfl ?_
          refine gfX8_12 1 dX8_reads_50 (hw1.k rfl) (hw1.f rfl) ?_
          refine jr_iload dX8_reads_53 rfl ?_
          refine jc_Vi (c_hasClock g _ hw1 1 NA1 s hN1 h0 _) lkX8_89 (hw1.k rfl) rfl rfl (Nat.le_of_ble_eq_true rfl) (Nat.le_of_ble_eq_true rfl) dX8_reads_55 (fun r_55 w_55 h_55 => ?_)
          obtain ⟨rfl, rfl⟩ := h_55
          refine jr_if_eq 93 dX8_reads_58 (by decide) (fun c_58 => absurd c_58 (jb_1.mpr ⟨by omega, by omega⟩)) (fun c_58 => ?_)
          refine jr_aload_n dX8_reads_61 rfl ?_
          refine gfX8_275 ((50 + 2 * q) + 1) dX8_reads_62 (shc hw1 hq).1 (shc hw1 hq).2.2 ?_
          refine jr_iload dX8_reads_65 rfl ?_
          refine jr_iald i (shc hw1 hq).2.1 rfl ⟨by omega, by decide⟩ dX8_reads_67 ?_
          rw [r2, z3 i (by omega)]
          refine jr_aload_n dX8_reads_68 rfl ?_
          refine gfX8_12 1 dX8_reads_69 (hw1.k rfl) (hw1.f rfl) ?_
          refine jr_aload_n dX8_reads_72 rfl ?_
          refine gfX8_12 1 dX8_reads_73 (hw1.k rfl) (hw1.f rfl) ?_
          refine gfX8_93 2 dX8_reads_76 (hw1.k rfl) (hw1.f rfl) ?_
          refine jr_iload dX8_reads_79 rfl ?_
          refine jr_aald i (hw1.k rfl) (by decide) rfl ⟨hi6, by decide⟩ (by rw [rk1 hw1 hi6, jrf_s]) dX8_reads_81 ?_
          refine jr_iload_n dX8_reads_82 rfl ?_
          refine jc_Vi (c_strokesAt g _ hw1 1 NA1 s hG hN1 _ _ _ _ (hN1.ck NA1 hw1 hC hi6) _ hlt) lkX8_112 (hw1.k rfl) rfl rfl (Nat.le_of_ble_eq_true rfl) (Nat.le_of_ble_eq_true rfl) dX8_reads_83 (fun r_83 w_83 h_83 => ?_)
          obtain ⟨rfl, hS3⟩ := h_83
          refine jr_icmp_ne 93 dX8_reads_86 (by decide) (fun c_86 => ?_) (fun c_86 => ?_)
          · refine jr_iconst (0) dX8_reads_93 (by decide) ?_
            first
            | exact K94 _ _ (hS.tr hS3) (Or.inl rfl) ⟨fun _ => Or.inr c_86, fun _ => rfl⟩
            | exact K94 _ _ (hS.tr hS3) (Or.inr rfl) ⟨fun h => absurd h (by decide), fun h => h.elim (fun h => absurd h (by omega)) (fun h => absurd c_86 h)⟩
          · refine jr_iconst (1) dX8_reads_89 (by decide) ?_
            refine jr_goto 94 dX8_reads_90 (by decide) ?_
            first
            | exact K94 _ _ (hS.tr hS3) (Or.inl rfl) ⟨fun _ => Or.inr c_86, fun _ => rfl⟩
            | exact K94 _ _ (hS.tr hS3) (Or.inr rfl) ⟨fun h => absurd h (by decide), fun h => h.elim (fun h => absurd h (by omega)) (fun h => absurd c_86 h)⟩
        · refine jr_iload dX8_reads_40 rfl ?_
          refine jr_aload_n dX8_reads_42 rfl ?_
          refine gfX8_271 dX8_reads_43 (shc hw1 hq).1 ?_
          rw [r1, z2, en]
          refine jr_icmp_ge 119 dX8_reads_46 (by decide) (fun c_46 => absurd c_46 (nI_ge (by omega) (by omega))) (fun c_46 => ?_)
          refine jr_aload_n dX8_reads_49 rfl ?_
          refine gfX8_12 1 dX8_reads_50 (hw1.k rfl) (hw1.f rfl) ?_
          refine jr_iload dX8_reads_53 rfl ?_
          refine jc_Vi (c_hasClock g _ hw1 1 NA1 s hN1 h0 _) lkX8_89 (hw1.k rfl) rfl rfl (Nat.le_of_ble_eq_true rfl) (Nat.le_of_ble_eq_true rfl) dX8_reads_55 (fun r_55 w_55 h_55 => ?_)
          obtain ⟨rfl, rfl⟩ := h_55
          refine jr_if_eq 93 dX8_reads_58 (by decide) (fun c_58 => ?_) (fun c_58 => absurd (jb_f (fun h => by omega)) c_58)
          refine jr_iconst (0) dX8_reads_93 (by decide) ?_
          exact K94 _ _ hS (Or.inl rfl) ⟨fun _ => Or.inl (by omega), fun _ => rfl⟩
    refine jr_iload_n dX8_reads_0 rfl ?_
    refine jr_iconst (4) dX8_reads_1 (by decide) ?_
    refine jc_Si (c_wi g _ _ _ 4 rfl) lkX8_76 rfl rfl (Nat.le_of_ble_eq_true rfl) (Nat.le_of_ble_eq_true rfl) dX8_reads_2 (fun r_2 w_2 h_2 => ?_)
    obtain ⟨rfl, rfl⟩ := h_2
    refine jr_if_ne 11 dX8_reads_5 (by decide) (fun c_5 => ?_) (fun c_5 => absurd c_5 (jb_1.mpr hk))
    refine jr_aload_n dX8_reads_11 rfl ?_
    refine gfX8_64 48 dX8_reads_12 (hw.k rfl) (hw.f rfl) ?_
    refine jr_iload_n dX8_reads_15 rfl ?_
    refine jr_aald q (hw.k rfl) (by decide) rfl ⟨hq, by decide⟩ (by rw [shf hw hq, jrf_s]) dX8_reads_16 ?_
    refine jr_astore_2 dX8_reads_17 (by decide) rfl ?_
    refine jr_aload_n dX8_reads_18 rfl ?_
    refine gfX8_209 dX8_reads_19 hCq.1 ?_
    rw [z1]
    refine jr_iconst (-1) dX8_reads_22 (by decide) ?_
    refine jr_icmp_ne 29 dX8_reads_23 (by decide) (fun c_23 => ?_) (fun c_23 => ?_)
    · simp only [lt_i, le_i, eq_i, Int32.reduceToInt] at c_23
      refine jr_aload_n dX8_reads_29 rfl ?_
      refine gfX8_12 1 dX8_reads_30 (hw.k rfl) (hw.f rfl) ?_
      refine jc_Vi (c_timeNow g _ hw 1 NA1 s hN hmi) lkX8_108 (hw.k rfl) rfl rfl (Nat.le_of_ble_eq_true rfl) (Nat.le_of_ble_eq_true rfl) dX8_reads_33 (fun r_33 w_33 h_33 => ?_)
      obtain ⟨rfl, rfl⟩ := h_33
      refine jr_istore_3 dX8_reads_36 (by decide) rfl ?_
      refine jr_iconst (0) dX8_reads_37 (by decide) ?_
      refine jr_istore_4 dX8_reads_38 (by decide) rfl ?_
      exact L (by omega) n 0 w _ rfl (fun j hj => absurd hj (by omega)) Sm.rf
    · simp only [lt_i, le_i, eq_i, Int32.reduceToInt] at c_23
      refine jr_ldc (-1000000011) ckX8_212 dX8_reads_26 ?_
      refine jr_iret rfl dX8_reads_28 ?_
      exact hQ _ _ ⟨by rw [if_pos (by omega)], CN.rf hN⟩
  · refine jr_iload_n dX8_reads_0 rfl ?_
    refine jr_iconst (4) dX8_reads_1 (by decide) ?_
    refine jc_Si (c_wi g _ _ _ 4 rfl) lkX8_76 rfl rfl (Nat.le_of_ble_eq_true rfl) (Nat.le_of_ble_eq_true rfl) dX8_reads_2 (fun r_2 w_2 h_2 => ?_)
    obtain ⟨rfl, rfl⟩ := h_2
    refine jr_if_ne 11 dX8_reads_5 (by decide) (fun c_5 => absurd (jb_f hk) c_5) (fun c_5 => ?_)
    refine jr_ldc (-1000000001) ckX8_80 dX8_reads_8 ?_
    refine jr_iret rfl dX8_reads_10 ?_
    exact hQ _ _ ⟨by rw [F_reads, if_pos hk], CN.rf hN⟩
/-- what stands in sheets is no number, or a small one -/
def ShV (R : Sh) : Prop := ∀ k, k < 4 → ∀ j, j < 24 → R.2.2 (24 * k + j) = -1000000005 ∨ (-100000 ≤ (R.2.2 (24 * k + j)).toInt ∧ (R.2.2 (24 * k + j)).toInt ≤ 100000)
theorem c_difference (g : Cx) (w : Wd) (hw : Wf w) (R : Sh) (hR : ShR w R) (hV : ShV R) (q n : Nat) (hq : q < 4) (hn : n ≤ 24) (en : R.2.1 q = nI n) (T : Nat → Nat) (hT : AllR (wI w 35) T) (hT96 : ∀ t, T t ≤ 96) (t : Nat) (ht : t < 720) : CI g yX1_difference cX1_difference 5 (some .int) 3 0 0 [.ref (gb g + 34), .ref (gb g + (50 + 2 * q)), .int (nI t)] w (fun r w' => r = dfF T R.2.2 q t n ∧ w = w') := by
  obtain ⟨z1, z2, z3⟩ := hR q hq
  have hC := shc hw hq
  refine CI.of (own := RX1) (nm := "difference") (lv := [some (.ref (gb g + 34)), some (.ref (gb g + (50 + 2 * q))), some (.int (nI t)), none, none]) (by decide) rfl rfl (Nat.le_of_ble_eq_true rfl) rfl (fun Q hQ => ?_)
  have L : ∀ (f k : Nat), f + k = n → RR g RX1 cX1_difference 5 (some .int) "difference" 3 0 0 0 0 5 [some (.ref (gb g + 34)), some (.ref (gb g + (50 + 2 * q))), some (.int (nI t)), some (.int (dfF T R.2.2 q t k)), some (.int (nI k))] [] w Q := by
    intro f
    induction f with
    | zero =>
      intro k hk
      have e : k = n := by omega
      subst e
      refine jr_iload dX1_difference_5 rfl ?_
      refine jr_aload_n dX1_difference_7 rfl ?_
      refine gfX1_98 dX1_difference_8 hC.1 ?_
      rw [z2, en]
      refine jr_icmp_ge 56 dX1_difference_11 (by decide) (fun c_11 => ?_) (fun c_11 => absurd (Int32.le_refl _) c_11)
      refine jr_iload_n dX1_difference_56 rfl ?_
      refine jr_iret rfl dX1_difference_57 ?_
      exact hQ _ _ ⟨rfl, rfl⟩
    | succ f ih =>
      intro k hk
      have h9 := ih (k + 1) (by omega)
      have hk24 : k < 24 := by omega
      have hlt : (t + k) % 720 < 720 := Nat.mod_lt _ (by decide)
      have hrem : nI t + nI k - (nI t + nI k) / 720 * 720 = nI ((t + k) % 720) := by
        rw [nI_add]
        exact pk_rem (by omega) (by decide) (by decide)
      simp only [dfF] at h9
      by_cases hnone : R.2.2 (24 * q + k) = -1000000005
      · rw [if_pos hnone, Int32.add_zero] at h9
        refine jr_iload dX1_difference_5 rfl ?_
        refine jr_aload_n dX1_difference_7 rfl ?_
        refine gfX1_98 dX1_difference_8 hC.1 ?_
        rw [z2, en]
        refine jr_icmp_ge 56 dX1_difference_11 (by decide) (fun c_11 => absurd c_11 (nI_ge (by omega) (by omega))) (fun c_11 => ?_)
        refine jr_aload_n dX1_difference_14 rfl ?_
        refine jr_iload dX1_difference_15 rfl ?_
        refine jc_Vi (c_isNumber g _ _ hC n k hn (by omega) (by rw [z2, en])) lkX1_103 hC.1 rfl rfl (Nat.le_of_ble_eq_true rfl) (Nat.le_of_ble_eq_true rfl) dX1_difference_17 (fun r_17 w_17 h_17 => ?_)
        obtain ⟨rfl, rfl⟩ := h_17
        refine jr_if_eq 50 dX1_difference_20 (by decide) (fun c_20 => ?_) (fun c_20 => absurd (jb_f (fun h => h.2 (by rw [z3 k hk24]; exact hnone))) c_20)
        refine jr_iinc_4 (nI (k + 1)) dX1_difference_50 (inc1 k) (by decide) rfl ?_
        refine jr_goto 5 dX1_difference_53 (by decide) ?_
        exact h9
      · rw [if_neg hnone] at h9
        have hv := (hV q hq k hk24).resolve_left hnone
        have ht96 := hT96 ((t + k) % 720)
        have eT : (nI (T ((t + k) % 720))).toInt = (T ((t + k) % 720) : Int) := i_nI (by omega)
        have esub : (nI (T ((t + k) % 720)) - R.2.2 (24 * q + k)).toInt = (T ((t + k) % 720) : Int) - (R.2.2 (24 * q + k)).toInt := by
          rw [Int32.toInt_sub, eT]
          exact Int.bmod_eq_of_le (by omega) (by omega)
        have eabs : (if (nI (T ((t + k) % 720)) - R.2.2 (24 * q + k)).toInt < 0 then -(nI (T ((t + k) % 720)) - R.2.2 (24 * q + k)) else nI (T ((t + k) % 720)) - R.2.2 (24 * q + k)) = (if (R.2.2 (24 * q + k)).toInt < (nI (T ((t + k) % 720))).toInt then nI (T ((t + k) % 720)) - R.2.2 (24 * q + k) else R.2.2 (24 * q + k) - nI (T ((t + k) % 720))) := by
          rw [esub, eT]
          by_cases c : (T ((t + k) % 720) : Int) - (R.2.2 (24 * q + k)).toInt < 0
          · rw [if_pos c, if_neg (by omega), Int32.neg_sub]
          · rw [if_neg c]
            by_cases c2 : (R.2.2 (24 * q + k)).toInt < (T ((t + k) % 720) : Int)
            · rw [if_pos c2]
            · have e : R.2.2 (24 * q + k) = nI (T ((t + k) % 720)) := by rw [eq_i, eT]; omega
              rw [if_neg c2, e]
        refine jr_iload dX1_difference_5 rfl ?_
        refine jr_aload_n dX1_difference_7 rfl ?_
        refine gfX1_98 dX1_difference_8 hC.1 ?_
        rw [z2, en]
        refine jr_icmp_ge 56 dX1_difference_11 (by decide) (fun c_11 => absurd c_11 (nI_ge (by omega) (by omega))) (fun c_11 => ?_)
        refine jr_aload_n dX1_difference_14 rfl ?_
        refine jr_iload dX1_difference_15 rfl ?_
        refine jc_Vi (c_isNumber g _ _ hC n k hn (by omega) (by rw [z2, en])) lkX1_103 hC.1 rfl rfl (Nat.le_of_ble_eq_true rfl) (Nat.le_of_ble_eq_true rfl) dX1_difference_17 (fun r_17 w_17 h_17 => ?_)
        obtain ⟨rfl, rfl⟩ := h_17
        refine jr_if_eq 50 dX1_difference_20 (by decide) (fun c_20 => absurd c_20 (jb_1.mpr ⟨by omega, fun h => hnone (by rw [← z3 k hk24]; exact h)⟩)) (fun c_20 => ?_)
        refine jr_iload_n dX1_difference_23 rfl ?_
        refine jr_aload_n dX1_difference_24 rfl ?_
        refine gfX1_9 35 dX1_difference_25 (hw.k rfl) (hw.f rfl) ?_
        refine jr_iload_n dX1_difference_28 rfl ?_
        refine jr_iload dX1_difference_29 rfl ?_
        refine jr_iadd dX1_difference_31 ?_
        refine jr_sipush (720) dX1_difference_32 (by decide) ?_
        refine jr_irem dX1_difference_35 (by decide) ?_
        rw [hrem]
        refine jr_iald ((t + k) % 720) (hw.k rfl) rfl ⟨hlt, by decide⟩ dX1_difference_36 ?_
        rw [hT _ hlt]
        refine jr_aload_n dX1_difference_37 rfl ?_
        refine gfX1_107 ((50 + 2 * q) + 1) dX1_difference_38 hC.1 hC.2.2 ?_
        refine jr_iload dX1_difference_41 rfl ?_
        refine jr_iald k hC.2.1 rfl ⟨hk24, by decide⟩ dX1_difference_43 ?_
        rw [z3 k hk24]
        refine jr_isub dX1_difference_44 ?_
        refine jc_Si (c_abs g _ _) lkX1_110 rfl rfl (Nat.le_of_ble_eq_true rfl) (Nat.le_of_ble_eq_true rfl) dX1_difference_45 (fun r_45 w_45 h_45 => ?_)
        obtain ⟨rfl, rfl⟩ := h_45
        rw [eabs]
        refine jr_iadd dX1_difference_48 ?_
        refine jr_istore_3 dX1_difference_49 (by decide) rfl ?_
        refine jr_iinc_4 (nI (k + 1)) dX1_difference_50 (inc1 k) (by decide) rfl ?_
        refine jr_goto 5 dX1_difference_53 (by decide) ?_
        exact h9
  refine jr_iconst (0) dX1_difference_0 (by decide) ?_
  refine jr_istore_3 dX1_difference_1 (by decide) rfl ?_
  refine jr_iconst (0) dX1_difference_2 (by decide) ?_
  refine jr_istore_4 dX1_difference_3 (by decide) rfl ?_
  exact L n 0 rfl
theorem p_like (g : Cx) (w : Wd) (hw : Wf w) (s : Nat → Int32) (hG : Gd s) (hN : NR w 1 s) (R : Sh) (hR : ShR w R) (hO : ShOk R) (hV : ShV R) (k x : Int32) : CI g yX8_like cX8_like 8 (some .int) 6 0 0 [.ref (gb g + 0), .int k, .int x] w (fun r w' => r = F_like R s k x ∧ CN w w' s) := by
  refine CI.of (own := RX8) (nm := "like") (lv := [some (.ref (gb g + 0)), some (.int k), some (.int x), none, none, none, none, none]) (by decide) rfl rfl (Nat.le_of_ble_eq_true rfl) rfl (fun Q hQ => ?_)
  by_cases hc : isS k ∧ inR x 0 1
  · obtain ⟨q, hq, eq⟩ := i_of (n := 4) (x := k) hc.1.1 hc.1.2
    have hxr : 0 ≤ x.toInt ∧ x.toInt < 2 := by have := hc.2; unfold inR at this; omega
    subst eq
    have eqc : (nI q).toNatClampNeg = q := nI_clamp (by omega)
    have hCq := shc hw hq
    obtain ⟨z1, z2, z3⟩ := hR q hq
    obtain ⟨hso, n, hn, en⟩ := hO q hq
    have hsoi : (R.1 q).toInt = -1 ∨ (R.1 q).toInt = 0 ∨ (R.1 q).toInt = 1 := by
      rcases hso with e | e | e <;> rw [e] <;> decide
    have esz : sN R.2.1 q = n := sN_of en (by omega)
    obtain ⟨D, eD⟩ : ∃ D : Nat → Int32, D = fun t => dfF (totT s) R.2.2 q t n := ⟨_, rfl⟩
    have eF : F_like R s (nI q) x = if (R.1 q).toInt < 0 then -1000000011 else if x.toInt = 0 then nI (lkF D 719).1 else (lkF D 719).2 := by
      rw [F_like, if_pos hc, eqc, esz, ← eD]
    rw [eF] at hQ
    have L : ¬ (R.1 q).toInt < 0 → ∀ (w1 : Wd), Sm scY w w1 → AllR (wI w1 35) (totT s) → ∀ (f t : Nat) (a7 : Option Value), f + t = 719 → RR g RX8 cX8_like 8 (some .int) "like" 6 0 0 0 0 65 [some (.ref (gb g + 0)), some (.int (nI q)), some (.int x), some (.ref (gb g + (50 + 2 * q))), some (.int (nI (lkF D t).1)), some (.int (lkF D t).2), some (.int (nI (t + 1))), a7] [] w1 Q := by
      intro hnn w1 hS hT f
      rw [if_neg hnn] at hQ
      have hw1 := hS.wf hw
      have hR1 : ShR w1 R := hR.sm hS (fun i h e => by unfold scSh at h; unfold scY scK at e; omega)
      induction f with
      | zero =>
        intro t a7 hf
        have e : t = 719 := by omega
        subst e
        refine jr_iload dX8_like_65 rfl ?_
        refine jr_sipush (720) dX8_like_67 (by decide) ?_
        refine jr_icmp_ge 106 dX8_like_70 (by decide) (fun c_70 => ?_) (fun c_70 => absurd (by decide) c_70)
        refine jr_iload_n dX8_like_106 rfl ?_
        refine jr_if_ne 115 dX8_like_107 (by decide) (fun c_107 => ?_) (fun c_107 => ?_)
        · simp only [lt_i, le_i, eq_i, Int32.reduceToInt] at c_107
          refine jr_iload dX8_like_115 rfl ?_
          refine jr_iret rfl dX8_like_117 ?_
          refine hQ _ _ ⟨?_, CN.y hN hS⟩
          first | rw [if_pos (by omega)] | rw [if_neg (by omega)]
        · simp only [lt_i, le_i, eq_i, Int32.reduceToInt] at c_107
          refine jr_iload dX8_like_110 rfl ?_
          refine jr_goto 117 dX8_like_112 (by decide) ?_
          refine jr_iret rfl dX8_like_117 ?_
          refine hQ _ _ ⟨?_, CN.y hN hS⟩
          first | rw [if_pos (by omega)] | rw [if_neg (by omega)]
      | succ f ih =>
        intro t a7 hf
        have h9 := fun a7 => ih (t + 1) a7 (by omega)
        simp only [lkF] at h9
        have eDt : dfF (totT s) R.2.2 q (t + 1) n = D (t + 1) := by rw [eD]
        refine jr_iload dX8_like_65 rfl ?_
        refine jr_sipush (720) dX8_like_67 (by decide) ?_
        refine jr_icmp_ge 106 dX8_like_70 (by decide) (fun c_70 => absurd c_70 (by rw [jlit 720]; exact nI_ge (by omega) (by decide))) (fun c_70 => ?_)
        refine jr_aload_n dX8_like_73 rfl ?_
        refine gfX8_29 34 dX8_like_74 (hw1.k rfl) (hw1.f rfl) ?_
        refine jr_aload_n dX8_like_77 rfl ?_
        refine jr_iload dX8_like_78 rfl ?_
        refine jc_Vi (c_difference g _ hw1 R hR1 hV q n hq hn en (totT s) hT (tot_96 hG) (t + 1) (by omega)) lkX8_213 (hw1.k rfl) rfl rfl (Nat.le_of_ble_eq_true rfl) (Nat.le_of_ble_eq_true rfl) dX8_like_80 (fun r_80 w_80 h_80 => ?_)
        obtain ⟨rfl, rfl⟩ := h_80
        rw [eDt]
        refine jr_istore_7 dX8_like_83 (by decide) rfl ?_
        refine jr_iload dX8_like_85 rfl ?_
        refine jr_iload dX8_like_87 rfl ?_
        refine jr_icmp_ge 100 dX8_like_89 (by decide) (fun c_89 => ?_) (fun c_89 => ?_)
        · simp only [lt_i, le_i, eq_i, Int32.reduceToInt] at c_89
          refine jr_iinc_6 (nI (t + 1 + 1)) dX8_like_100 (inc1 _) (by decide) rfl ?_
          refine jr_goto 65 dX8_like_103 (by decide) ?_
          first | (rw [if_pos (by omega)] at h9; exact h9 _) | (rw [if_neg (by omega)] at h9; exact h9 _)
        · simp only [lt_i, le_i, eq_i, Int32.reduceToInt] at c_89
          refine jr_iload dX8_like_92 rfl ?_
          refine jr_istore_4 dX8_like_94 (by decide) rfl ?_
          refine jr_iload dX8_like_96 rfl ?_
          refine jr_istore_5 dX8_like_98 (by decide) rfl ?_
          refine jr_iinc_6 (nI (t + 1 + 1)) dX8_like_100 (inc1 _) (by decide) rfl ?_
          refine jr_goto 65 dX8_like_103 (by decide) ?_
          first | (rw [if_pos (by omega)] at h9; exact h9 _) | (rw [if_neg (by omega)] at h9; exact h9 _)
    have K48 : ¬ (R.1 q).toInt < 0 → ∀ (w1 : Wd), Sm scY w w1 → AllR (wI w1 35) (totT s) → RR g RX8 cX8_like 8 (some .int) "like" 6 0 0 0 0 48 [some (.ref (gb g + 0)), some (.int (nI q)), some (.int x), some (.ref (gb g + (50 + 2 * q))), none, none, none, none] [] w1 Q := by
      intro hnn w1 hS hT
      have hw1 := hS.wf hw
      have hR1 : ShR w1 R := hR.sm hS (fun i h e => by unfold scSh at h; unfold scY scK at e; omega)
      have h9 := L hnn w1 hS hT 719 0 none rfl
      have eD0 : dfF (totT s) R.2.2 q 0 n = (lkF D 0).2 := by rw [eD]; rfl
      refine jr_iconst (0) dX8_like_48 (by decide) ?_
      refine jr_istore_4 dX8_like_49 (by decide) rfl ?_
      refine jr_aload_n dX8_like_51 rfl ?_
      refine gfX8_29 34 dX8_like_52 (hw1.k rfl) (hw1.f rfl) ?_
      refine jr_aload_n dX8_like_55 rfl ?_
      refine jr_iconst (0) dX8_like_56 (by decide) ?_
      refine jc_Vi (c_difference g _ hw1 R hR1 hV q n hq hn en (totT s) hT (tot_96 hG) 0 (by omega)) lkX8_213 (hw1.k rfl) rfl rfl (Nat.le_of_ble_eq_true rfl) (Nat.le_of_ble_eq_true rfl) dX8_like_57 (fun r_57 w_57 h_57 => ?_)
      obtain ⟨rfl, rfl⟩ := h_57
      rw [eD0]
      refine jr_istore_5 dX8_like_60 (by decide) rfl ?_
      refine jr_iconst (1) dX8_like_62 (by decide) ?_
      refine jr_istore_6 dX8_like_63 (by decide) rfl ?_
      exact h9
    refine jr_iload_n dX8_like_0 rfl ?_
    refine jr_iconst (4) dX8_like_1 (by decide) ?_
    refine jc_Si (c_wi g _ _ _ 4 rfl) lkX8_76 rfl rfl (Nat.le_of_ble_eq_true rfl) (Nat.le_of_ble_eq_true rfl) dX8_like_2 (fun r_2 w_2 h_2 => ?_)
    obtain ⟨rfl, rfl⟩ := h_2
    refine jr_if_eq 16 dX8_like_5 (by decide) (fun c_5 => absurd c_5 (jb_1.mpr hc.1)) (fun c_5 => ?_)
    refine jr_iload_n dX8_like_8 rfl ?_
    refine jr_iconst (2) dX8_like_9 (by decide) ?_
    refine jc_Si (c_wi g _ _ _ 2 rfl) lkX8_76 rfl rfl (Nat.le_of_ble_eq_true rfl) (Nat.le_of_ble_eq_true rfl) dX8_like_10 (fun r_10 w_10 h_10 => ?_)
    obtain ⟨rfl, rfl⟩ := h_10
    refine jr_if_ne 19 dX8_like_13 (by decide) (fun c_13 => ?_) (fun c_13 => absurd c_13 (jb_1.mpr hxr))
    refine jr_aload_n dX8_like_19 rfl ?_
    refine gfX8_64 48 dX8_like_20 (hw.k rfl) (hw.f rfl) ?_
    refine jr_iload_n dX8_like_23 rfl ?_
    refine jr_aald q (hw.k rfl) (by decide) rfl ⟨hq, by decide⟩ (by rw [shf hw hq, jrf_s]) dX8_like_24 ?_
    refine jr_astore_3 dX8_like_25 (by decide) rfl ?_
    refine jr_aload_n dX8_like_26 rfl ?_
    refine gfX8_209 dX8_like_27 hCq.1 ?_
    rw [z1]
    refine jr_iconst (-1) dX8_like_30 (by decide) ?_
    refine jr_icmp_ne 37 dX8_like_31 (by decide) (fun c_31 => ?_) (fun c_31 => ?_)
    · simp only [lt_i, le_i, eq_i, Int32.reduceToInt] at c_31
      refine jr_aload_n dX8_like_37 rfl ?_
      refine gfX8_29 34 dX8_like_38 (hw.k rfl) (hw.f rfl) ?_
      refine jr_aload_n dX8_like_41 rfl ?_
      refine gfX8_12 1 dX8_like_42 (hw.k rfl) (hw.f rfl) ?_
      refine jc_Vv (c_useClocks g _ hw 1 NA1 s hG hN) lkX8_175 (hw.k rfl) rfl rfl (Nat.le_of_ble_eq_true rfl) (Nat.le_of_ble_eq_true rfl) dX8_like_45 (fun w_45 h_45 => ?_)
      obtain ⟨hT, hS1⟩ := h_45
      exact K48 (by omega) _ (yq hS1) hT
    · simp only [lt_i, le_i, eq_i, Int32.reduceToInt] at c_31
      refine jr_ldc (-1000000011) ckX8_212 dX8_like_34 ?_
      refine jr_iret rfl dX8_like_36 ?_
      exact hQ _ _ ⟨by rw [if_pos (by omega)], CN.rf hN⟩
  · refine jr_iload_n dX8_like_0 rfl ?_
    refine jr_iconst (4) dX8_like_1 (by decide) ?_
    refine jc_Si (c_wi g _ _ _ 4 rfl) lkX8_76 rfl rfl (Nat.le_of_ble_eq_true rfl) (Nat.le_of_ble_eq_true rfl) dX8_like_2 (fun r_2 w_2 h_2 => ?_)
    obtain ⟨rfl, rfl⟩ := h_2
    refine jr_if_eq 16 dX8_like_5 (by decide) (fun c_5 => ?_) (fun c_5 => ?_)
    · rw [jb_0] at c_5
      refine jr_ldc (-1000000001) ckX8_80 dX8_like_16 ?_
      refine jr_iret rfl dX8_like_18 ?_
      exact hQ _ _ ⟨by rw [F_like, if_neg hc], CN.rf hN⟩
    · rw [jb_1] at c_5
      refine jr_iload_n dX8_like_8 rfl ?_
      refine jr_iconst (2) dX8_like_9 (by decide) ?_
      refine jc_Si (c_wi g _ _ _ 2 rfl) lkX8_76 rfl rfl (Nat.le_of_ble_eq_true rfl) (Nat.le_of_ble_eq_true rfl) dX8_like_10 (fun r_10 w_10 h_10 => ?_)
      obtain ⟨rfl, rfl⟩ := h_10
      refine jr_if_ne 19 dX8_like_13 (by decide) (fun c_13 => ?_) (fun c_13 => ?_)
      · rw [jb_1] at c_13
        exfalso; exact hc ⟨c_5, by unfold inR; omega⟩
      · rw [jb_0] at c_13
        refine jr_ldc (-1000000001) ckX8_80 dX8_like_16 ?_
        refine jr_iret rfl dX8_like_18 ?_
        exact hQ _ _ ⟨by rw [F_like, if_neg hc], CN.rf hN⟩
