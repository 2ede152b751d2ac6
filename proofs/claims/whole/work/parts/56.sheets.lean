-- the class: sheets
/-- a sheet at c, its places at c + 1 -/
def ShC (w : Wd) (c : Nat) : Prop := jK w c 3 0 ∧ jK w (c + 1) 11 24 ∧ wF w c 2 = some (c + 1)
theorem shc {w : Wd} (hw : Wf w) {k : Nat} (hk : k < 4) : ShC w (50 + 2 * k) := by
  have hc : k = 0 ∨ k = 1 ∨ k = 2 ∨ k = 3 := by omega
  rcases hc with rfl | rfl | rfl | rfl <;> exact ⟨hw.k rfl, hw.k rfl, hw.f rfl⟩
theorem shf {w : Wd} (hw : Wf w) {k : Nat} (hk : k < 4) : wF w 48 k = some (50 + 2 * k) := by
  have hc : k = 0 ∨ k = 1 ∨ k = 2 ∨ k = 3 := by omega
  rcases hc with rfl | rfl | rfl | rfl <;> exact hw.f rfl
def ShR (w : Wd) (R : Sh) : Prop := ∀ k, k < 4 → wI w (50 + 2 * k) 0 = R.1 k ∧ wI w (50 + 2 * k) 1 = R.2.1 k ∧ ∀ j, j < 24 → wI w (50 + 2 * k + 1) j = R.2.2 (24 * k + j)
def scSh : Nat → Prop := fun i => 50 ≤ i ∧ i ≤ 57
def CH (w w' : Wd) (R : Sh) : Prop := ShR w' R ∧ Sm scSh w w'
theorem CH.rf {w : Wd} {R : Sh} (h : ShR w R) : CH w w R := ⟨h, Sm.rf⟩
theorem ShR.sm {w w' : Wd} {R : Sh} {S : Nat → Prop} (h : ShR w R) (hS : Sm S w w') (hn : ∀ i, scSh i → ¬ S i) : ShR w' R := by
  intro k hk
  rw [hS.row (hn (50 + 2 * k) (by unfold scSh; omega)), hS.row (hn (50 + 2 * k + 1) (by unfold scSh; omega))]
  exact h k hk
theorem c_become (g : Cx) (w : Wd) (c : Nat) (hC : ShC w c) (so : Int32) (n : Nat) (hn : n ≤ 24) : CV g yX3_become cX3_become 3 3 0 0 [.ref (gb g + c), .int so, .int (nI n)] w (fun w' => w' = sR (sR w c (upd (upd (wI w c) 0 so) 1 (nI n))) (c + 1) (filR (wI w (c + 1)) 24 0)) := by
  obtain ⟨k1, k2, f1⟩ := hC
  have en : (nI n).toInt = (n : Int) := i_nI (by omega)
  have hheld : (if (0 : Int32).toInt < (if (nI n).toInt < (24 : Int32).toInt then nI n else 24).toInt then (if (nI n).toInt < (24 : Int32).toInt then nI n else 24) else 0) = nI n := by
    have e24 : (24 : Int32).toInt = 24 := rfl
    have e0 : (0 : Int32).toInt = 0 := rfl
    rw [e24, e0]
    by_cases c : (nI n).toInt < 24
    · rw [if_pos c]
      by_cases c2 : 0 < (nI n).toInt
      · rw [if_pos c2]
      · rw [if_neg c2, show n = 0 by omega]; rfl
    · rw [if_neg c, if_pos (by decide), show n = 24 by omega]; rfl
  refine CV.of (own := RX3) (nm := "become") (lv := [some (.ref (gb g + c)), some (.int so), some (.int (nI n))]) (by decide) rfl rfl (Nat.le_of_ble_eq_true rfl) rfl (fun Q hQ => ?_)
  refine jr_aload_n dX3_become_0 rfl ?_
  refine jr_iload_n dX3_become_1 rfl ?_
  refine pfX3_9 dX3_become_2 k1 ?_
  refine jr_aload_n dX3_become_5 rfl ?_
  refine jr_iload_n dX3_become_6 rfl ?_
  refine jr_iconst (0) dX3_become_7 (by decide) ?_
  refine jr_bipush (24) dX3_become_8 (by decide) ?_
  refine jc_SNi (c_held g _ _ _ _) lkX3_22 rfl rfl (Nat.le_of_ble_eq_true rfl) (Nat.le_of_ble_eq_true rfl) dX3_become_10 (fun r_10 w_10 h_10 => ?_)
  obtain ⟨rfl, rfl⟩ := h_10
  rw [hheld]
  refine pfX3_15 dX3_become_13 k1 ?_
  rw [sR_sR, wI_sR_s]
  refine jr_aload_n dX3_become_16 rfl ?_
  refine gfX3_18 (c + 1) dX3_become_17 k1 f1 ?_
  refine jr_iconst (0) dX3_become_20 (by decide) ?_
  refine jc_Sv (c_fill g _ (c + 1) 24 (by exact k2) (by decide) 0) lkX3_26 rfl rfl (Nat.le_of_ble_eq_true rfl) (Nat.le_of_ble_eq_true rfl) dX3_become_21 (fun w_21 h_21 => ?_)
  obtain rfl := h_21
  refine jr_vret rfl dX3_become_24 ?_
  exact hQ _ (by rw [wI_sR_n _ (by omega)])
theorem c_shTake (g : Cx) (w : Wd) (a b : Nat) (hA : ShC w a) (hB : ShC w b) (hab : a ≠ b ∧ a + 1 ≠ b ∧ a ≠ b + 1) : CV g yX3_take cX3_take 2 2 0 0 [.ref (gb g + a), .ref (gb g + b)] w (fun w' => w' = sR (sR w a (upd (upd (wI w a) 0 (wI w b 0)) 1 (wI w b 1))) (a + 1) (va_cpy (wI w (b + 1)) (wI w (a + 1)) 0 0 24)) := by
  obtain ⟨a1, a2, a3⟩ := hA
  obtain ⟨b1, b2, b3⟩ := hB
  refine CV.of (own := RX3) (nm := "take") (lv := [some (.ref (gb g + a)), some (.ref (gb g + b))]) (by decide) rfl rfl (Nat.le_of_ble_eq_true rfl) rfl (fun Q hQ => ?_)
  refine jr_aload_n dX3_take_0 rfl ?_
  refine jr_aload_n dX3_take_1 rfl ?_
  refine gfX3_9 dX3_take_2 b1 ?_
  refine pfX3_9 dX3_take_5 a1 ?_
  refine jr_aload_n dX3_take_8 rfl ?_
  refine jr_aload_n dX3_take_9 rfl ?_
  refine gfX3_15 dX3_take_10 b1 ?_
  rw [wI_sR_n _ (Ne.symm hab.1)]
  refine pfX3_15 dX3_take_13 a1 ?_
  rw [sR_sR, wI_sR_s]
  refine jr_aload_n dX3_take_16 rfl ?_
  refine gfX3_18 (b + 1) dX3_take_17 b1 b3 ?_
  refine jr_iconst (0) dX3_take_20 (by decide) ?_
  refine jr_aload_n dX3_take_21 rfl ?_
  refine gfX3_18 (a + 1) dX3_take_22 a1 a3 ?_
  refine jr_iconst (0) dX3_take_25 (by decide) ?_
  refine jr_bipush (24) dX3_take_26 (by decide) ?_
  refine jr_acopy 0 0 24 lkX3_32 ac_nat ac_stt ac_ini b2 a2 rfl rfl rfl ⟨by decide, by decide, by decide, by decide⟩ (Nat.le_of_ble_eq_true rfl) (Nat.le_of_ble_eq_true rfl) dX3_take_28 ?_
  refine jr_vret rfl dX3_take_31 ?_
  exact hQ _ (by rw [wI_sR_n _ (Ne.symm hab.2.2), wI_sR_n _ (by omega)])
theorem c_isNumber (g : Cx) (w : Wd) (c : Nat) (hC : ShC w c) (n k : Nat) (hn : n ≤ 24) (hk : k < 2 ^ 31) (h1 : wI w c 1 = nI n) : CI g yX3_isNumber cX3_isNumber 2 (some .boolean) 2 0 0 [.ref (gb g + c), .int (nI k)] w (fun r w' => r = jb (k < n ∧ ¬ wI w (c + 1) k = -1000000005) ∧ w = w') := by
  obtain ⟨k1, k2, f1⟩ := hC
  have ek : (nI k).toInt = (k : Int) := i_nI hk
  refine CI.of (own := RX3) (nm := "isNumber") (lv := [some (.ref (gb g + c)), some (.int (nI k))]) (by decide) rfl rfl (Nat.le_of_ble_eq_true rfl) rfl (fun Q hQ => ?_)
  refine jr_iload_n dX3_isNumber_0 rfl ?_
  refine jr_aload_n dX3_isNumber_1 rfl ?_
  refine gfX3_15 dX3_isNumber_2 k1 ?_
  rw [h1]
  refine jc_SNi (c_wi g _ _ _ n (i_nI (by omega))) lkX3_38 rfl rfl (Nat.le_of_ble_eq_true rfl) (Nat.le_of_ble_eq_true rfl) dX3_isNumber_5 (fun r_5 w_5 h_5 => ?_)
  obtain ⟨rfl, rfl⟩ := h_5
  refine jr_if_eq 26 dX3_isNumber_8 (by decide) (fun c_8 => ?_) (fun c_8 => ?_)
  · rw [jb_0] at c_8
    refine jr_iconst (0) dX3_isNumber_26 (by decide) ?_
    refine jr_zret rfl (by decide) dX3_isNumber_27 ?_
    first | exact hQ _ _ ⟨jb_f' (fun h => by omega), rfl⟩ | exact hQ _ _ ⟨jb_f' (fun h => h.2 c_19), rfl⟩ | exact hQ _ _ ⟨jb_t' ⟨by omega, c_19⟩, rfl⟩
  · rw [jb_1] at c_8
    refine jr_aload_n dX3_isNumber_11 rfl ?_
    refine gfX3_18 (c + 1) dX3_isNumber_12 k1 f1 ?_
    refine jr_iload_n dX3_isNumber_15 rfl ?_
    refine jr_iald k k2 rfl ⟨by omega, by decide⟩ dX3_isNumber_16 ?_
    refine jr_ldc (-1000000005) ckX3_42 dX3_isNumber_17 ?_
    refine jr_icmp_eq 26 dX3_isNumber_19 (by decide) (fun c_19 => ?_) (fun c_19 => ?_)
    · refine jr_iconst (0) dX3_isNumber_26 (by decide) ?_
      refine jr_zret rfl (by decide) dX3_isNumber_27 ?_
      first | exact hQ _ _ ⟨jb_f' (fun h => by omega), rfl⟩ | exact hQ _ _ ⟨jb_f' (fun h => h.2 c_19), rfl⟩ | exact hQ _ _ ⟨jb_t' ⟨by omega, c_19⟩, rfl⟩
    · refine jr_iconst (1) dX3_isNumber_22 (by decide) ?_
      refine jr_goto 27 dX3_isNumber_23 (by decide) ?_
      refine jr_zret rfl (by decide) dX3_isNumber_27 ?_
      first | exact hQ _ _ ⟨jb_f' (fun h => by omega), rfl⟩ | exact hQ _ _ ⟨jb_f' (fun h => h.2 c_19), rfl⟩ | exact hQ _ _ ⟨jb_t' ⟨by omega, c_19⟩, rfl⟩
theorem c_hasRun (g : Cx) (w : Wd) (c : Nat) (hC : ShC w c) (n : Nat) (hn : n ≤ 24) (h1 : wI w c 1 = nI n) (p m : Int32) : CI g yX3_hasRun cX3_hasRun 3 (some .boolean) 1 0 0 [.ref (gb g + c), .int p, .int m] w (fun r w' => r = jb (0 ≤ p.toInt ∧ 0 ≤ m.toInt ∧ p.toInt + m.toInt ≤ n) ∧ w = w') := by
  obtain ⟨k1, k2, f1⟩ := hC
  have en : (nI n).toInt = (n : Int) := i_nI (by omega)
  refine CI.of (own := RX3) (nm := "hasRun") (lv := [some (.ref (gb g + c)), some (.int p), some (.int m)]) (by decide) rfl rfl (Nat.le_of_ble_eq_true rfl) rfl (fun Q hQ => ?_)
  refine jr_iload_n dX3_hasRun_0 rfl ?_
  refine jr_if_lt 30 dX3_hasRun_1 (by decide) (fun c_1 => ?_) (fun c_1 => ?_)
  · simp only [lt_i, le_i, eq_i, Int32.reduceToInt] at c_1
    refine jr_iconst (0) dX3_hasRun_30 (by decide) ?_
    refine jr_zret rfl (by decide) dX3_hasRun_31 ?_
    first | exact hQ _ _ ⟨jb_f' (by omega), rfl⟩ | exact hQ _ _ ⟨jb_t' (by omega), rfl⟩
  · simp only [lt_i, le_i, eq_i, Int32.reduceToInt] at c_1
    refine jr_iload_n dX3_hasRun_4 rfl ?_
    refine jr_if_lt 30 dX3_hasRun_5 (by decide) (fun c_5 => ?_) (fun c_5 => ?_)
    · simp only [lt_i, le_i, eq_i, Int32.reduceToInt] at c_5
      refine jr_iconst (0) dX3_hasRun_30 (by decide) ?_
      refine jr_zret rfl (by decide) dX3_hasRun_31 ?_
      first | exact hQ _ _ ⟨jb_f' (by omega), rfl⟩ | exact hQ _ _ ⟨jb_t' (by omega), rfl⟩
    · simp only [lt_i, le_i, eq_i, Int32.reduceToInt] at c_5
      refine jr_iload_n dX3_hasRun_8 rfl ?_
      refine jr_aload_n dX3_hasRun_9 rfl ?_
      refine gfX3_15 dX3_hasRun_10 k1 ?_
      rw [h1]
      refine jr_icmp_gt 30 dX3_hasRun_13 (by decide) (fun c_13 => ?_) (fun c_13 => ?_)
      · simp only [lt_i, le_i, eq_i, Int32.reduceToInt] at c_13
        refine jr_iconst (0) dX3_hasRun_30 (by decide) ?_
        refine jr_zret rfl (by decide) dX3_hasRun_31 ?_
        first | exact hQ _ _ ⟨jb_f' (by omega), rfl⟩ | exact hQ _ _ ⟨jb_t' (by omega), rfl⟩
      · simp only [lt_i, le_i, eq_i, Int32.reduceToInt] at c_13
        refine jr_iload_n dX3_hasRun_16 rfl ?_
        refine jr_aload_n dX3_hasRun_17 rfl ?_
        refine gfX3_15 dX3_hasRun_18 k1 ?_
        rw [h1]
        refine jr_iload_n dX3_hasRun_21 rfl ?_
        refine jr_isub dX3_hasRun_22 ?_
        obtain ⟨q, hq, eq⟩ := i_of (n := 25) (x := p) (by omega) (by omega)
        subst eq
        have eq9 : (nI q).toInt = (q : Int) := i_nI (by omega)
        have es : (nI n - nI q).toInt = (n : Int) - q := pk_sub_toInt (by omega) (by omega)
        refine jr_icmp_gt 30 dX3_hasRun_23 (by decide) (fun c_23 => ?_) (fun c_23 => ?_)
        · simp only [lt_i, le_i, eq_i, Int32.reduceToInt] at c_23
          refine jr_iconst (0) dX3_hasRun_30 (by decide) ?_
          refine jr_zret rfl (by decide) dX3_hasRun_31 ?_
          first | exact hQ _ _ ⟨jb_f' (by omega), rfl⟩ | exact hQ _ _ ⟨jb_t' (by omega), rfl⟩
        · simp only [lt_i, le_i, eq_i, Int32.reduceToInt] at c_23
          refine jr_iconst (1) dX3_hasRun_26 (by decide) ?_
          refine jr_goto 31 dX3_hasRun_27 (by decide) ?_
          refine jr_zret rfl (by decide) dX3_hasRun_31 ?_
          first | exact hQ _ _ ⟨jb_f' (by omega), rfl⟩ | exact hQ _ _ ⟨jb_t' (by omega), rfl⟩
theorem p_sheet (g : Cx) (w : Wd) (hw : Wf w) (R : Sh) (hR : ShR w R) (k so n : Int32) : CI g yX8_sheet cX8_sheet 4 (some .int) 4 0 0 [.ref (gb g + 0), .int k, .int so, .int n] w (fun r w' => r = (F_sheet R k so n).1 ∧ CH w w' (F_sheet R k so n).2) := by
  refine CI.of (own := RX8) (nm := "sheet") (lv := [some (.ref (gb g + 0)), some (.int k), some (.int so), some (.int n)]) (by decide) rfl rfl (Nat.le_of_ble_eq_true rfl) rfl (fun Q hQ => ?_)
  have bad : ¬ (isS k ∧ inR so (-1) 1 ∧ ¬ (0 ≤ so.toInt ∧ 24 < n.toInt)) → Q (some (.int (-1000000001))) w := fun h => hQ _ _ ⟨by rw [F_sheet, if_neg h], by rw [F_sheet, if_neg h]; exact CH.rf hR⟩
  by_cases hk : isS k
  · obtain ⟨q, hq, eq⟩ := i_of (n := 4) (x := k) hk.1 hk.2
    subst eq
    have eqc : (nI q).toNatClampNeg = q := nI_clamp (by omega)
    have hC := shc hw hq
    have fin : ∀ (m : Nat), m ≤ 24 → ∀ (w' : Wd), w' = sR (sR w (50 + 2 * q) (upd (upd (wI w (50 + 2 * q)) 0 so) 1 (nI m))) (50 + 2 * q + 1) (filR (wI w (50 + 2 * q + 1)) 24 0) → CH w w' (upd R.1 q so, upd R.2.1 q (nI m), clrR R.2.2 q) := by
      intro m hm w' e
      subst e
      refine ⟨fun i hi => ?_, (Sm.sR (by unfold scSh; omega)).tr (Sm.sR (by unfold scSh; omega))⟩
      by_cases e : i = q
      · subst e
        rw [wI_sR_n _ (by omega), wI_sR_s, wI_sR_s]
        refine ⟨by rw [pk_un (by decide), pk_us]; exact pk_us.symm, by rw [pk_us]; exact pk_us.symm, fun j hj => ?_⟩
        rw [filR, if_pos hj]
        show (0 : Int32) = clrR R.2.2 i (24 * i + j)
        rw [clrR, if_pos (by omega)]
      · rw [wI_sR_n _ (by omega), wI_sR_n _ (by omega), wI_sR_n _ (by omega), wI_sR_n _ (by omega)]
        obtain ⟨z1, z2, z3⟩ := hR i hi
        refine ⟨by rw [z1]; exact (pk_un e).symm, by rw [z2]; exact (pk_un e).symm, fun j hj => ?_⟩
        rw [z3 j hj]
        show R.2.2 (24 * i + j) = clrR R.2.2 q (24 * i + j)
        rw [clrR, if_neg (by omega)]
    by_cases hso : inR so (-1) 1
    · have hso2 : -1 ≤ so.toInt ∧ so.toInt ≤ 1 := hso
      have K21 : RR g RX8 cX8_sheet 4 (some .int) "sheet" 4 0 0 0 0 21 [some (.ref (gb g + 0)), some (.int (nI q)), some (.int so), some (.int n)] [] w Q := by
        by_cases hm1 : so.toInt < 0
        · have eso : so = -1 := by rw [eq_i]; show so.toInt = -1; omega
          have eF : F_sheet R (nI q) so n = (0, (upd R.1 q so, upd R.2.1 q 0, clrR R.2.2 q)) := by
            rw [F_sheet, if_pos ⟨hk, hso, by omega⟩, if_neg (by omega), if_pos hm1, eqc]
          rw [eF] at hQ
          subst eso
          refine jr_iload_n dX8_sheet_21 rfl ?_
          refine jr_iconst (-1) dX8_sheet_22 (by decide) ?_
          refine jr_icmp_ne 39 dX8_sheet_23 (by decide) (fun c_23 => absurd rfl c_23) (fun c_23 => ?_)
          refine jr_aload_n dX8_sheet_26 rfl ?_
          refine gfX8_64 48 dX8_sheet_27 (hw.k rfl) (hw.f rfl) ?_
          refine jr_iload_n dX8_sheet_30 rfl ?_
          refine jr_aald q (hw.k rfl) (by decide) rfl ⟨hq, by decide⟩ (by rw [shf hw hq, jrf_s]) dX8_sheet_31 ?_
          refine jr_iconst (-1) dX8_sheet_32 (by decide) ?_
          refine jr_iconst (0) dX8_sheet_33 (by decide) ?_
          refine jc_Vv (c_become g _ (50 + 2 * q) hC _ 0 (by decide)) lkX8_266 hC.1 rfl rfl (Nat.le_of_ble_eq_true rfl) (Nat.le_of_ble_eq_true rfl) dX8_sheet_34 (fun w_34 h_34 => ?_)
          obtain rfl := h_34
          refine jr_iconst (0) dX8_sheet_37 (by decide) ?_
          refine jr_iret rfl dX8_sheet_38 ?_
          exact hQ _ _ ⟨rfl, fin 0 (by decide) _ rfl⟩
        · by_cases h24 : 24 < n.toInt
          · refine jr_iload_n dX8_sheet_21 rfl ?_
            refine jr_iconst (-1) dX8_sheet_22 (by decide) ?_
            refine jr_icmp_ne 39 dX8_sheet_23 (by decide) (fun c_23 => ?_) (fun c_23 => absurd c_23 (fun e => hm1 (by rw [e]; decide)))
            refine jr_iload_n dX8_sheet_39 rfl ?_
            refine jr_bipush (24) dX8_sheet_40 (by decide) ?_
            refine jr_icmp_le 48 dX8_sheet_42 (by decide) (fun c_42 => absurd c_42 (by rw [le_i]; show ¬ _ ≤ (24 : Int); omega)) (fun c_42 => ?_)
            refine jr_ldc (-1000000001) ckX8_80 dX8_sheet_45 ?_
            refine jr_iret rfl dX8_sheet_47 ?_
            exact bad (fun h => h.2.2 ⟨by omega, h24⟩)
          · by_cases hneg : n.toInt < 0
            · refine jr_iload_n dX8_sheet_21 rfl ?_
              refine jr_iconst (-1) dX8_sheet_22 (by decide) ?_
              refine jr_icmp_ne 39 dX8_sheet_23 (by decide) (fun c_23 => ?_) (fun c_23 => absurd c_23 (fun e => hm1 (by rw [e]; decide)))
              refine jr_iload_n dX8_sheet_39 rfl ?_
              refine jr_bipush (24) dX8_sheet_40 (by decide) ?_
              refine jr_icmp_le 48 dX8_sheet_42 (by decide) (fun c_42 => ?_) (fun c_42 => absurd (by rw [le_i]; show _ ≤ (24 : Int); omega) c_42)
              refine jr_iload_n dX8_sheet_48 rfl ?_
              refine jr_if_ge 56 dX8_sheet_49 (by decide) (fun c_49 => absurd c_49 (by rw [le_i]; show ¬ (0 : Int) ≤ _; omega)) (fun c_49 => ?_)
              refine jr_ldcw (-1000000014) ckX8_270 dX8_sheet_52 ?_
              refine jr_iret rfl dX8_sheet_55 ?_
              exact hQ _ _ ⟨by rw [F_sheet, if_pos ⟨hk, hso, by omega⟩, if_pos (by omega)], by rw [F_sheet, if_pos ⟨hk, hso, by omega⟩, if_pos (by omega)]; exact CH.rf hR⟩
            · obtain ⟨m, hm, em⟩ := i_of (n := 25) (x := n) (by omega) (by omega)
              have eF : F_sheet R (nI q) so n = (n, (upd R.1 q so, upd R.2.1 q n, clrR R.2.2 q)) := by
                rw [F_sheet, if_pos ⟨hk, hso, by omega⟩, if_neg (by omega), if_neg hm1, eqc]
              rw [eF] at hQ
              subst em
              refine jr_iload_n dX8_sheet_21 rfl ?_
              refine jr_iconst (-1) dX8_sheet_22 (by decide) ?_
              refine jr_icmp_ne 39 dX8_sheet_23 (by decide) (fun c_23 => ?_) (fun c_23 => absurd c_23 (fun e => hm1 (by rw [e]; decide)))
              refine jr_iload_n dX8_sheet_39 rfl ?_
              refine jr_bipush (24) dX8_sheet_40 (by decide) ?_
              refine jr_icmp_le 48 dX8_sheet_42 (by decide) (fun c_42 => ?_) (fun c_42 => absurd (by rw [jlit 24]; exact nI_le (by omega) (by decide)) c_42)
              refine jr_iload_n dX8_sheet_48 rfl ?_
              refine jr_if_ge 56 dX8_sheet_49 (by decide) (fun c_49 => ?_) (fun c_49 => absurd (nI_pos' (by omega)) c_49)
              refine jr_aload_n dX8_sheet_56 rfl ?_
              refine gfX8_64 48 dX8_sheet_57 (hw.k rfl) (hw.f rfl) ?_
              refine jr_iload_n dX8_sheet_60 rfl ?_
              refine jr_aald q (hw.k rfl) (by decide) rfl ⟨hq, by decide⟩ (by rw [shf hw hq, jrf_s]) dX8_sheet_61 ?_
              refine jr_iload_n dX8_sheet_62 rfl ?_
              refine jr_iload_n dX8_sheet_63 rfl ?_
              refine jc_Vv (c_become g _ (50 + 2 * q) hC _ m (by omega)) lkX8_266 hC.1 rfl rfl (Nat.le_of_ble_eq_true rfl) (Nat.le_of_ble_eq_true rfl) dX8_sheet_64 (fun w_64 h_64 => ?_)
              obtain rfl := h_64
              refine jr_iload_n dX8_sheet_67 rfl ?_
              refine jr_iret rfl dX8_sheet_68 ?_
              exact hQ _ _ ⟨rfl, fin m (by omega) _ rfl⟩
      refine jr_iload_n dX8_sheet_0 rfl ?_
      refine jr_iconst (4) dX8_sheet_1 (by decide) ?_
      refine jc_Si (c_wi g _ _ _ 4 rfl) lkX8_76 rfl rfl (Nat.le_of_ble_eq_true rfl) (Nat.le_of_ble_eq_true rfl) dX8_sheet_2 (fun r_2 w_2 h_2 => ?_)
      obtain ⟨rfl, rfl⟩ := h_2
      refine jr_if_eq 18 dX8_sheet_5 (by decide) (fun c_5 => absurd c_5 (jb_1.mpr hk)) (fun c_5 => ?_)
      refine jr_iload_n dX8_sheet_8 rfl ?_
      refine jr_iconst (-1) dX8_sheet_9 (by decide) ?_
      refine jr_icmp_lt 18 dX8_sheet_10 (by decide) (fun c_10 => ?_) (fun c_10 => ?_)
      · simp only [lt_i, le_i, eq_i, Int32.reduceToInt] at c_10
        exfalso; omega
      · simp only [lt_i, le_i, eq_i, Int32.reduceToInt] at c_10
        refine jr_iload_n dX8_sheet_13 rfl ?_
        refine jr_iconst (1) dX8_sheet_14 (by decide) ?_
        refine jr_icmp_le 21 dX8_sheet_15 (by decide) (fun c_15 => ?_) (fun c_15 => ?_)
        · simp only [lt_i, le_i, eq_i, Int32.reduceToInt] at c_15
          exact K21
        · simp only [lt_i, le_i, eq_i, Int32.reduceToInt] at c_15
          exfalso; omega
    · refine jr_iload_n dX8_sheet_0 rfl ?_
      refine jr_iconst (4) dX8_sheet_1 (by decide) ?_
      refine jc_Si (c_wi g _ _ _ 4 rfl) lkX8_76 rfl rfl (Nat.le_of_ble_eq_true rfl) (Nat.le_of_ble_eq_true rfl) dX8_sheet_2 (fun r_2 w_2 h_2 => ?_)
      obtain ⟨rfl, rfl⟩ := h_2
      refine jr_if_eq 18 dX8_sheet_5 (by decide) (fun c_5 => absurd c_5 (jb_1.mpr hk)) (fun c_5 => ?_)
      refine jr_iload_n dX8_sheet_8 rfl ?_
      refine jr_iconst (-1) dX8_sheet_9 (by decide) ?_
      refine jr_icmp_lt 18 dX8_sheet_10 (by decide) (fun c_10 => ?_) (fun c_10 => ?_)
      · simp only [lt_i, le_i, eq_i, Int32.reduceToInt] at c_10
        refine jr_ldc (-1000000001) ckX8_80 dX8_sheet_18 ?_
        refine jr_iret rfl dX8_sheet_20 ?_
        exact bad (fun h => hso h.2.1)
      · simp only [lt_i, le_i, eq_i, Int32.reduceToInt] at c_10
        refine jr_iload_n dX8_sheet_13 rfl ?_
        refine jr_iconst (1) dX8_sheet_14 (by decide) ?_
        refine jr_icmp_le 21 dX8_sheet_15 (by decide) (fun c_15 => ?_) (fun c_15 => ?_)
        · simp only [lt_i, le_i, eq_i, Int32.reduceToInt] at c_15
          exfalso; exact hso (by unfold inR; omega)
        · simp only [lt_i, le_i, eq_i, Int32.reduceToInt] at c_15
          refine jr_ldc (-1000000001) ckX8_80 dX8_sheet_18 ?_
          refine jr_iret rfl dX8_sheet_20 ?_
          exact bad (fun h => hso h.2.1)
  · refine jr_iload_n dX8_sheet_0 rfl ?_
    refine jr_iconst (4) dX8_sheet_1 (by decide) ?_
    refine jc_Si (c_wi g _ _ _ 4 rfl) lkX8_76 rfl rfl (Nat.le_of_ble_eq_true rfl) (Nat.le_of_ble_eq_true rfl) dX8_sheet_2 (fun r_2 w_2 h_2 => ?_)
    obtain ⟨rfl, rfl⟩ := h_2
    refine jr_if_eq 18 dX8_sheet_5 (by decide) (fun c_5 => ?_) (fun c_5 => absurd (jb_f hk) c_5)
    refine jr_ldc (-1000000001) ckX8_80 dX8_sheet_18 ?_
    refine jr_iret rfl dX8_sheet_20 ?_
    exact bad (fun h => hk h.1)
theorem sh16 (v : Int32) : (v <<< ((16 : Int32) &&& 31)) >>> ((16 : Int32) &&& 31) = v.toInt16.toInt32 := by
  refine b_ext (fun i hi => ?_)
  rw [show ((16 : Int32) &&& 31) = (nI 16 &&& 31) from rfl, b_sshr 16 (by decide) _ hi]
  have e : bt v.toInt16.toInt32 i = bt v (min i 15) := by
    unfold bt
    rw [Int16.toBitVec_toInt32, Int32.toBitVec_toInt16, BitVec.getLsbD_signExtend]
    rcases Nat.lt_or_ge i 16 with z | z
    · rw [if_pos z, BitVec.getLsbD_signExtend, if_pos hi]
      simp only [z, hi, decide_true, Bool.true_and]
      congr 1
      omega
    · rw [if_neg (by omega), BitVec.msb_eq_getLsbD_last, BitVec.getLsbD_signExtend]
      simp only [hi, decide_true, Bool.true_and]
      rw [show min i 15 = 15 by omega]
      simp
  rw [e]
  by_cases c : 16 + i < 32
  · rw [if_pos c, b_shl 16 (by decide) v c, decide_eq_true (by omega), Bool.true_and]
    congr 1
    omega
  · rw [if_neg c, b_shl 16 (by decide) v (by decide), decide_eq_true (by decide), Bool.true_and]
    congr 1
    omega
theorem p_mark (g : Cx) (w : Wd) (hw : Wf w) (R : Sh) (hR : ShR w R) (hO : ShOk R) (k p v : Int32) : CI g yX8_mark cX8_mark 5 (some .int) 2 0 0 [.ref (gb g + 0), .int k, .int p, .int v] w (fun r w' => r = (F_mark R k p v).1 ∧ CH w w' (F_mark R k p v).2) := by
  refine CI.of (own := RX8) (nm := "mark") (lv := [some (.ref (gb g + 0)), some (.int k), some (.int p), some (.int v), none]) (by decide) rfl rfl (Nat.le_of_ble_eq_true rfl) rfl (fun Q hQ => ?_)
  by_cases hk : isS k
  · obtain ⟨q, hq, eq⟩ := i_of (n := 4) (x := k) hk.1 hk.2
    subst eq
    have eqc : (nI q).toNatClampNeg = q := nI_clamp (by omega)
    have hC := shc hw hq
    obtain ⟨z1, z2, z3⟩ := hR q hq
    obtain ⟨hso, n, hn, en⟩ := hO q hq
    have hsoi : (R.1 q).toInt = -1 ∨ (R.1 q).toInt = 0 ∨ (R.1 q).toInt = 1 := by
      rcases hso with e | e | e <;> rw [e] <;> decide
    have eni : (nI n).toInt = (n : Int) := i_nI (by omega)
    have fin : ∀ (x : Int32) (j : Nat), j < n → CH w (sR w (50 + 2 * q + 1) (upd (wI w (50 + 2 * q + 1)) j x)) (R.1, R.2.1, upd R.2.2 (24 * q + j) x) := by
      intro x j hj
      refine ⟨fun i hi => ?_, Sm.sR (by unfold scSh; omega)⟩
      obtain ⟨y1, y2, y3⟩ := hR i hi
      rw [wI_sR_n _ (by omega)]
      refine ⟨y1, y2, fun l hl => ?_⟩
      by_cases e : i = q
      · subst e
        rw [wI_sR_s]
        show upd (wI w (50 + 2 * i + 1)) j x l = upd R.2.2 (24 * i + j) x (24 * i + l)
        by_cases e2 : l = j
        · rw [e2, pk_us, pk_us]
        · rw [pk_un e2, pk_un (by omega)]; exact y3 l hl
      · rw [wI_sR_n _ (by omega)]
        show wI w (50 + 2 * i + 1) l = upd R.2.2 (24 * q + j) x (24 * i + l)
        rw [pk_un (by omega)]
        exact y3 l hl
    have eF : F_mark R (nI q) p v = if (R.1 q).toInt < 0 then (-1000000011, R) else if ¬ (0 ≤ p.toInt ∧ p.toInt < (R.2.1 q).toInt) then (-1000000013, R) else if (R.1 q).toInt = 0 ∧ v = -1000000005 then (-1000000012, R) else if (R.1 q).toInt = 1 ∧ ¬ v = -1000000005 ∧ ¬ inR v (-99999) 99999 then (-1000000001, R) else (1, (R.1, R.2.1, upd R.2.2 (24 * q + p.toNatClampNeg) (if (R.1 q).toInt = 0 then (v <<< ((16 : Int32) &&& 31)) >>> ((16 : Int32) &&& 31) else v))) := by
      rw [F_mark, if_neg (fun h => h hk), eqc]
    rw [eF, en, eni] at hQ
    by_cases hp : 0 ≤ p.toInt ∧ p.toInt < n
    · obtain ⟨j, hj, ej⟩ := i_of (n := n) (x := p) hp.1 hp.2
      have ejc : p.toNatClampNeg = j := by rw [ej, nI_clamp (by omega)]
      rw [ejc] at hQ
      refine jr_iload_n dX8_mark_0 rfl ?_
      refine jr_iconst (4) dX8_mark_1 (by decide) ?_
      refine jc_Si (c_wi g _ _ _ 4 rfl) lkX8_76 rfl rfl (Nat.le_of_ble_eq_true rfl) (Nat.le_of_ble_eq_true rfl) dX8_mark_2 (fun r_2 w_2 h_2 => ?_)
      obtain ⟨rfl, rfl⟩ := h_2
      refine jr_if_ne 11 dX8_mark_5 (by decide) (fun c_5 => ?_) (fun c_5 => absurd c_5 (jb_1.mpr hk))
      refine jr_aload_n dX8_mark_11 rfl ?_
      refine gfX8_64 48 dX8_mark_12 (hw.k rfl) (hw.f rfl) ?_
      refine jr_iload_n dX8_mark_15 rfl ?_
      refine jr_aald q (hw.k rfl) (by decide) rfl ⟨hq, by decide⟩ (by rw [shf hw hq, jrf_s]) dX8_mark_16 ?_
      refine jr_astore_4 dX8_mark_17 (by decide) rfl ?_
      refine jr_aload dX8_mark_19 rfl ?_
      refine gfX8_209 dX8_mark_21 hC.1 ?_
      rw [z1]
      refine jr_iconst (-1) dX8_mark_24 (by decide) ?_
      refine jr_icmp_ne 31 dX8_mark_25 (by decide) (fun c_25 => ?_) (fun c_25 => ?_)
      · simp only [lt_i, le_i, eq_i, Int32.reduceToInt] at c_25
        refine jr_iload_n dX8_mark_31 rfl ?_
        refine jr_aload dX8_mark_32 rfl ?_
        refine gfX8_271 dX8_mark_34 hC.1 ?_
        rw [z2, en]
        refine jc_Si (c_wi g _ _ _ n eni) lkX8_76 rfl rfl (Nat.le_of_ble_eq_true rfl) (Nat.le_of_ble_eq_true rfl) dX8_mark_37 (fun r_37 w_37 h_37 => ?_)
        obtain ⟨rfl, rfl⟩ := h_37
        refine jr_if_ne 47 dX8_mark_40 (by decide) (fun c_40 => ?_) (fun c_40 => absurd c_40 (jb_1.mpr hp))
        refine jr_aload dX8_mark_47 rfl ?_
        refine gfX8_209 dX8_mark_49 hC.1 ?_
        rw [z1]
        refine jr_if_ne 75 dX8_mark_52 (by decide) (fun c_52 => ?_) (fun c_52 => ?_)
        · simp only [lt_i, le_i, eq_i, Int32.reduceToInt] at c_52
          refine jr_iload_n dX8_mark_75 rfl ?_
          refine jr_ldc (-1000000005) ckX8_168 dX8_mark_76 ?_
          refine jr_icmp_eq 98 dX8_mark_78 (by decide) (fun c_78 => ?_) (fun c_78 => ?_)
          · refine jr_aload dX8_mark_98 rfl ?_
            refine gfX8_275 ((50 + 2 * q) + 1) dX8_mark_100 hC.1 hC.2.2 ?_
            refine jr_iload_n dX8_mark_103 rfl ?_
            refine jr_iload_n dX8_mark_104 rfl ?_
            refine jr_iast j hC.2.1 ej ⟨by omega, by decide⟩ dX8_mark_105 ?_
            refine jr_iconst (1) dX8_mark_106 (by decide) ?_
            refine jr_iret rfl dX8_mark_107 ?_
            rw [if_neg (by omega), if_neg (fun h => h hp), if_neg (fun h => by omega), if_neg (fun h => by first | exact h.2.1 c_78 | (have h9 := h.2.2; unfold inR at h9; omega)), if_neg (by omega)] at hQ
            exact hQ _ _ ⟨rfl, fin _ j hj⟩
          · refine jr_iload_n dX8_mark_81 rfl ?_
            refine jr_ldcw (-99999) ckX8_278 dX8_mark_82 ?_
            refine jr_icmp_lt 95 dX8_mark_85 (by decide) (fun c_85 => ?_) (fun c_85 => ?_)
            · simp only [lt_i, le_i, eq_i, Int32.reduceToInt] at c_85
              refine jr_ldc (-1000000001) ckX8_80 dX8_mark_95 ?_
              refine jr_iret rfl dX8_mark_97 ?_
              have hz : (R.1 q).toInt = 1 ∧ ¬ v = -1000000005 ∧ ¬ inR v (-99999) 99999 := ⟨by omega, c_78, by unfold inR; omega⟩
              exact hQ _ _ ⟨by rw [if_neg (by omega), if_neg (fun h => h hp), if_neg (fun h => by omega), if_pos hz], by rw [if_neg (by omega), if_neg (fun h => h hp), if_neg (fun h => by omega), if_pos hz]; exact CH.rf hR⟩
            · simp only [lt_i, le_i, eq_i, Int32.reduceToInt] at c_85
              refine jr_iload_n dX8_mark_88 rfl ?_
              refine jr_ldcw (99999) ckX8_279 dX8_mark_89 ?_
              refine jr_icmp_le 98 dX8_mark_92 (by decide) (fun c_92 => ?_) (fun c_92 => ?_)
              · simp only [lt_i, le_i, eq_i, Int32.reduceToInt] at c_92
                refine jr_aload dX8_mark_98 rfl ?_
                refine gfX8_275 ((50 + 2 * q) + 1) dX8_mark_100 hC.1 hC.2.2 ?_
                refine jr_iload_n dX8_mark_103 rfl ?_
                refine jr_iload_n dX8_mark_104 rfl ?_
                refine jr_iast j hC.2.1 ej ⟨by omega, by decide⟩ dX8_mark_105 ?_
                refine jr_iconst (1) dX8_mark_106 (by decide) ?_
                refine jr_iret rfl dX8_mark_107 ?_
                rw [if_neg (by omega), if_neg (fun h => h hp), if_neg (fun h => by omega), if_neg (fun h => by first | exact h.2.1 c_78 | (have h9 := h.2.2; unfold inR at h9; omega)), if_neg (by omega)] at hQ
                exact hQ _ _ ⟨rfl, fin _ j hj⟩
              · simp only [lt_i, le_i, eq_i, Int32.reduceToInt] at c_92
                refine jr_ldc (-1000000001) ckX8_80 dX8_mark_95 ?_
                refine jr_iret rfl dX8_mark_97 ?_
                have hz : (R.1 q).toInt = 1 ∧ ¬ v = -1000000005 ∧ ¬ inR v (-99999) 99999 := ⟨by omega, c_78, by unfold inR; omega⟩
                exact hQ _ _ ⟨by rw [if_neg (by omega), if_neg (fun h => h hp), if_neg (fun h => by omega), if_pos hz], by rw [if_neg (by omega), if_neg (fun h => h hp), if_neg (fun h => by omega), if_pos hz]; exact CH.rf hR⟩
        · simp only [lt_i, le_i, eq_i, Int32.reduceToInt] at c_52
          refine jr_iload_n dX8_mark_55 rfl ?_
          refine jr_ldc (-1000000005) ckX8_168 dX8_mark_56 ?_
          refine jr_icmp_ne 64 dX8_mark_58 (by decide) (fun c_58 => ?_) (fun c_58 => ?_)
          · refine jr_aload dX8_mark_64 rfl ?_
            refine gfX8_275 ((50 + 2 * q) + 1) dX8_mark_66 hC.1 hC.2.2 ?_
            refine jr_iload_n dX8_mark_69 rfl ?_
            refine jr_iload_n dX8_mark_70 rfl ?_
            refine jr_i2s dX8_mark_71 ?_
            refine jr_iast j hC.2.1 ej ⟨by omega, by decide⟩ dX8_mark_72 ?_
            refine jr_iconst (1) dX8_mark_73 (by decide) ?_
            refine jr_iret rfl dX8_mark_74 ?_
            rw [if_neg (by omega), if_neg (fun h => h hp), if_neg (fun h => c_58 h.2), if_neg (fun h => by omega), if_pos (by omega), sh16] at hQ
            exact hQ _ _ ⟨rfl, fin _ j hj⟩
          · refine jr_ldc (-1000000012) ckX8_126 dX8_mark_61 ?_
            refine jr_iret rfl dX8_mark_63 ?_
            exact hQ _ _ ⟨by rw [if_neg (by omega), if_neg (fun h => h hp), if_pos ⟨by omega, c_58⟩], by rw [if_neg (by omega), if_neg (fun h => h hp), if_pos ⟨by omega, c_58⟩]; exact CH.rf hR⟩
      · simp only [lt_i, le_i, eq_i, Int32.reduceToInt] at c_25
        refine jr_ldc (-1000000011) ckX8_212 dX8_mark_28 ?_
        refine jr_iret rfl dX8_mark_30 ?_
        exact hQ _ _ ⟨by rw [if_pos (by omega)], by rw [if_pos (by omega)]; exact CH.rf hR⟩
    · refine jr_iload_n dX8_mark_0 rfl ?_
      refine jr_iconst (4) dX8_mark_1 (by decide) ?_
      refine jc_Si (c_wi g _ _ _ 4 rfl) lkX8_76 rfl rfl (Nat.le_of_ble_eq_true rfl) (Nat.le_of_ble_eq_true rfl) dX8_mark_2 (fun r_2 w_2 h_2 => ?_)
      obtain ⟨rfl, rfl⟩ := h_2
      refine jr_if_ne 11 dX8_mark_5 (by decide) (fun c_5 => ?_) (fun c_5 => absurd c_5 (jb_1.mpr hk))
      refine jr_aload_n dX8_mark_11 rfl ?_
      refine gfX8_64 48 dX8_mark_12 (hw.k rfl) (hw.f rfl) ?_
      refine jr_iload_n dX8_mark_15 rfl ?_
      refine jr_aald q (hw.k rfl) (by decide) rfl ⟨hq, by decide⟩ (by rw [shf hw hq, jrf_s]) dX8_mark_16 ?_
      refine jr_astore_4 dX8_mark_17 (by decide) rfl ?_
      refine jr_aload dX8_mark_19 rfl ?_
      refine gfX8_209 dX8_mark_21 hC.1 ?_
      rw [z1]
      refine jr_iconst (-1) dX8_mark_24 (by decide) ?_
      refine jr_icmp_ne 31 dX8_mark_25 (by decide) (fun c_25 => ?_) (fun c_25 => ?_)
      · simp only [lt_i, le_i, eq_i, Int32.reduceToInt] at c_25
        refine jr_iload_n dX8_mark_31 rfl ?_
        refine jr_aload dX8_mark_32 rfl ?_
        refine gfX8_271 dX8_mark_34 hC.1 ?_
        rw [z2, en]
        refine jc_Si (c_wi g _ _ _ n eni) lkX8_76 rfl rfl (Nat.le_of_ble_eq_true rfl) (Nat.le_of_ble_eq_true rfl) dX8_mark_37 (fun r_37 w_37 h_37 => ?_)
        obtain ⟨rfl, rfl⟩ := h_37
        refine jr_if_ne 47 dX8_mark_40 (by decide) (fun c_40 => absurd (jb_f hp) c_40) (fun c_40 => ?_)
        refine jr_ldcw (-1000000013) ckX8_274 dX8_mark_43 ?_
        refine jr_iret rfl dX8_mark_46 ?_
        exact hQ _ _ ⟨by rw [if_neg (by omega), if_pos hp], by rw [if_neg (by omega), if_pos hp]; exact CH.rf hR⟩
      · simp only [lt_i, le_i, eq_i, Int32.reduceToInt] at c_25
        refine jr_ldc (-1000000011) ckX8_212 dX8_mark_28 ?_
        refine jr_iret rfl dX8_mark_30 ?_
        exact hQ _ _ ⟨by rw [if_pos (by omega)], by rw [if_pos (by omega)]; exact CH.rf hR⟩
  · refine jr_iload_n dX8_mark_0 rfl ?_
    refine jr_iconst (4) dX8_mark_1 (by decide) ?_
    refine jc_Si (c_wi g _ _ _ 4 rfl) lkX8_76 rfl rfl (Nat.le_of_ble_eq_true rfl) (Nat.le_of_ble_eq_true rfl) dX8_mark_2 (fun r_2 w_2 h_2 => ?_)
    obtain ⟨rfl, rfl⟩ := h_2
    refine jr_if_ne 11 dX8_mark_5 (by decide) (fun c_5 => absurd (jb_f hk) c_5) (fun c_5 => ?_)
    refine jr_ldc (-1000000001) ckX8_80 dX8_mark_8 ?_
    refine jr_iret rfl dX8_mark_10 ?_
    exact hQ _ _ ⟨by rw [F_mark, if_pos hk], by rw [F_mark, if_pos hk]; exact CH.rf hR⟩
