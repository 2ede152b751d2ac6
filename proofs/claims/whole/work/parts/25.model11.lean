-- the reference: sheets
abbrev Sh : Type := (Nat → Int32) × (Nat → Int32) × (Nat → Int32)
def scH : Nat → Prop := fun i => i = 82 ∨ i = 83 ∨ i = 84 ∨ i = 95
/-- the sheets' rows: sorts, sizes, numbers -/
def MH (w w' : Wd) (R : Sh) : Prop := wI w' 82 = R.1 ∧ wI w' 83 = R.2.1 ∧ wI w' 84 = R.2.2 ∧ Sm scH w w'
theorem MH.rf {w : Wd} {R : Sh} (h : wI w 82 = R.1 ∧ wI w 83 = R.2.1 ∧ wI w 84 = R.2.2) : MH w w R := ⟨h.1, h.2.1, h.2.2, Sm.rf⟩
def ShOk (R : Sh) : Prop := ∀ k, k < 4 → (R.1 k = -1 ∨ R.1 k = 0 ∨ R.1 k = 1) ∧ ∃ n, n ≤ 24 ∧ R.2.1 k = nI n
theorem finH {P : Int32 × Sh} {w w' : Wd} {r : Int32} {R : Sh} (e : P = (r, R)) (h : MH w w' R) : r = P.1 ∧ MH w w' P.2 := by rw [e]; exact ⟨rfl, h⟩
abbrev isS (x : Int32) : Prop := 0 ≤ x.toInt ∧ x.toInt < 4
def clrR (f : Nat → Int32) (k : Nat) : Nat → Int32 := fun j => if 24 * k ≤ j ∧ j < 24 * k + 24 then 0 else f j
def F_sheet (R : Sh) (k so n : Int32) : Int32 × Sh :=
  if isS k ∧ inR so (-1) 1 ∧ ¬ (0 ≤ so.toInt ∧ 24 < n.toInt) then
    (if 0 ≤ so.toInt ∧ n.toInt < 0 then (-1000000014, R) else
      ((if so.toInt < 0 then 0 else n), (upd R.1 k.toNatClampNeg so, upd R.2.1 k.toNatClampNeg (if so.toInt < 0 then 0 else n), clrR R.2.2 k.toNatClampNeg)))
  else (-1000000001, R)
theorem m_sheet (g : Cx) (w : Wd) (hw : Wf w) (R : Sh) (hR : wI w 82 = R.1 ∧ wI w 83 = R.2.1 ∧ wI w 84 = R.2.2) (k so n : Int32) : CI g yX9_sheet cX9_sheet 5 (some .int) 3 0 0 [.ref (gb g + 78), .int k, .int so, .int n] w (fun r w' => r = (F_sheet R k so n).1 ∧ MH w w' (F_sheet R k so n).2) := by
  obtain ⟨R1, R2, R3⟩ := R
  simp only at hR
  obtain ⟨hR1, hR2, hR3⟩ := hR
  refine CI.of (own := RX9) (nm := "sheet") (lv := [some (.ref (gb g + 78)), some (.int k), some (.int so), some (.int n), none]) (by decide) rfl rfl (Nat.le_of_ble_eq_true rfl) rfl (fun Q hQ => ?_)
  have L : ∀ (q : Nat), q < 4 → k = nI q → ∀ (P : Int32) (e : (F_sheet (R1, R2, R3) k so n) = (P, (upd R1 q so, upd R2 q P, clrR R3 q))) (f i : Nat) (w1 : Wd), f + i = 24 → wI w1 82 = upd R1 q so → wI w1 83 = upd R2 q P → (∀ j, wI w1 84 j = if 24 * q ≤ j ∧ j < 24 * q + i then 0 else R3 j) → Sm scH w w1 → RR g RX9 cX9_sheet 5 (some .int) "sheet" 3 0 0 0 0 69 [some (.ref (gb g + 78)), some (.int k), some (.int so), some (.int n), some (.int (nI i))] [] w1 Q := by
    intro q hq ek P e f
    subst ek
    induction f with
    | zero =>
      intro i w1 hi h1 h2 h3 hS
      have ei : i = 24 := by omega
      subst ei
      have hw1 := hS.wf hw
      refine jr_iload dX9_sheet_69 rfl ?_
      refine jr_bipush (24) dX9_sheet_71 (by decide) ?_
      refine jr_icmp_ge 95 dX9_sheet_73 (by decide) (fun c_73 => ?_) (fun c_73 => absurd (by decide) c_73)
      refine jr_aload_n dX9_sheet_95 rfl ?_
      refine gfX9_22 83 dX9_sheet_96 (hw1.k rfl) (hw1.f rfl) ?_
      refine jr_iload_n dX9_sheet_99 rfl ?_
      refine jr_iald q (hw1.k rfl) rfl ⟨by omega, by decide⟩ dX9_sheet_100 ?_
      refine jr_iret rfl dX9_sheet_101 ?_
      refine hQ _ _ (finH (R := (upd R1 q so, upd R2 q P, clrR R3 q)) ?_ ⟨h1, h2, funext h3, hS⟩)
      rw [e, h2, pk_us]
    | succ f ih =>
      intro i w1 hi h1 h2 h3 hS
      have hw1 := hS.wf hw
      refine jr_iload dX9_sheet_69 rfl ?_
      refine jr_bipush (24) dX9_sheet_71 (by decide) ?_
      refine jr_icmp_ge 95 dX9_sheet_73 (by decide) (fun c_73 => absurd c_73 (nI_ge (b := 24) (by omega) (by omega))) (fun c_73 => ?_)
      refine jr_aload_n dX9_sheet_76 rfl ?_
      refine gfX9_25 84 dX9_sheet_77 (hw1.k rfl) (hw1.f rfl) ?_
      refine jr_bipush (24) dX9_sheet_80 (by decide) ?_
      refine jr_iload_n dX9_sheet_82 rfl ?_
      refine jr_imul dX9_sheet_83 ?_
      refine jr_iload dX9_sheet_84 rfl ?_
      refine jr_iadd dX9_sheet_86 ?_
      refine jr_iconst (0) dX9_sheet_87 (by decide) ?_
      refine jr_iast (24 * q + i) (hw1.k rfl) (by rw [jlit 24, pk_mul, nI_add]) ⟨by omega, by decide⟩ dX9_sheet_88 ?_
      refine jr_iinc_4 (nI (i + 1)) dX9_sheet_89 (inc1 i) (by decide) rfl ?_
      refine jr_goto 69 dX9_sheet_92 (by decide) ?_
      refine ih (i + 1) _ (by omega) (by rw [wI_sR_n _ (by decide)]; exact h1) (by rw [wI_sR_n _ (by decide)]; exact h2) (fun j => ?_) (hS.tr (Sm.sR (by unfold scH; omega)))
      rw [wI_sR_s]
      by_cases ej : j = 24 * q + i
      · rw [ej, pk_us, if_pos (by omega)]
      · rw [pk_un ej, h3 j]
        by_cases hj : 24 * q ≤ j ∧ j < 24 * q + i
        · rw [if_pos hj, if_pos (by omega)]
        · rw [if_neg hj, if_neg (by omega)]
  refine jr_iload_n dX9_sheet_0 rfl ?_
  refine jc_Si (c_isSheet g _ _) lkX9_178 rfl rfl (Nat.le_of_ble_eq_true rfl) (Nat.le_of_ble_eq_true rfl) dX9_sheet_1 (fun r_1 w_1 h_1 => ?_)
  obtain ⟨rfl, rfl⟩ := h_1
  refine jr_if_eq 29 dX9_sheet_4 (by decide) (fun c_4 => ?_) (fun c_4 => ?_)
  · rw [jb_0] at c_4
    refine jr_ldc (-1000000001) ckX9_83 dX9_sheet_29 ?_
    refine jr_iret rfl dX9_sheet_31 ?_
    exact hQ _ _ (finH (by rw [F_sheet, if_neg (by unfold isS inR; omega)]) (MH.rf ⟨hR1, hR2, hR3⟩))
  · rw [jb_1] at c_4
    obtain ⟨q, hq, ek⟩ := i_of (n := 4) c_4.1 c_4.2
    subst ek
    refine jr_iload_n dX9_sheet_7 rfl ?_
    refine jr_i2l dX9_sheet_8 ?_
    refine jr_ldc2 (-1) ckX9_296 dX9_sheet_9 ?_
    refine jr_lconst 1 dX9_sheet_12 (by decide) ?_
    refine jc_Si (c_isInI g _ _ _ _) lkX9_68 rfl rfl (Nat.le_of_ble_eq_true rfl) (Nat.le_of_ble_eq_true rfl) dX9_sheet_13 (fun r_13 w_13 h_13 => ?_)
    obtain ⟨rfl, rfl⟩ := h_13
    refine jr_if_eq 29 dX9_sheet_16 (by decide) (fun c_16 => ?_) (fun c_16 => ?_)
    · rw [jb_0] at c_16
      simp only [Int64.reduceToInt] at c_16
      refine jr_ldc (-1000000001) ckX9_83 dX9_sheet_29 ?_
      refine jr_iret rfl dX9_sheet_31 ?_
      exact hQ _ _ (finH (by rw [F_sheet, if_neg (by unfold isS inR; omega)]) (MH.rf ⟨hR1, hR2, hR3⟩))
    · rw [jb_1] at c_16
      simp only [Int64.reduceToInt] at c_16
      refine jr_iload_n dX9_sheet_19 rfl ?_
      refine jr_if_lt 32 dX9_sheet_20 (by decide) (fun c_20 => ?_) (fun c_20 => ?_)
      · simp only [lt_i, le_i, eq_i, Int32.reduceToInt] at c_20
        refine jr_iload_n dX9_sheet_32 rfl ?_
        refine jr_if_lt 44 dX9_sheet_33 (by decide) (fun c_33 => ?_) (fun c_33 => ?_)
        · simp only [lt_i, le_i, eq_i, Int32.reduceToInt] at c_33
          refine jr_aload_n dX9_sheet_44 rfl ?_
          refine gfX9_19 82 dX9_sheet_45 (hw.k rfl) (hw.f rfl) ?_
          refine jr_iload_n dX9_sheet_48 rfl ?_
          refine jr_iload_n dX9_sheet_49 rfl ?_
          refine jr_iast q (hw.k rfl) rfl ⟨hq, by decide⟩ dX9_sheet_50 ?_
          refine jr_aload_n dX9_sheet_51 rfl ?_
          refine gfX9_22 83 dX9_sheet_52 (hw.k rfl) (hw.f rfl) ?_
          refine jr_iload_n dX9_sheet_55 rfl ?_
          refine jr_iload_n dX9_sheet_56 rfl ?_
          refine jr_if_ge 64 dX9_sheet_57 (by decide) (fun c_57 => ?_) (fun c_57 => ?_)
          · simp only [lt_i, le_i, eq_i, Int32.reduceToInt] at c_57
            refine jr_iload_n dX9_sheet_64 rfl ?_
            refine jr_iast q (hw.k rfl) rfl ⟨hq, by decide⟩ dX9_sheet_65 ?_
            refine jr_iconst (0) dX9_sheet_66 (by decide) ?_
            refine jr_istore_4 dX9_sheet_67 (by decide) rfl ?_
            refine L q hq rfl _ (by rw [F_sheet, if_pos (by unfold isS inR; omega), if_neg (by omega), nI_clamp (by omega)]) 24 0 _ rfl ?_ ?_ (fun j => ?_) ((Sm.sR (by unfold scH; omega)).tr (Sm.sR (by unfold scH; omega)))
            · rw [wI_sR_n _ (by decide), wI_sR_s, hR1]
            · rw [wI_sR_s, wI_sR_n _ (by decide), hR2]
              first | (exfalso; omega) | rw [if_pos (by omega)] | rw [if_neg (by omega)]
            · rw [wI_sR_n _ (by decide), wI_sR_n _ (by decide), hR3, if_neg (by omega)]
          · simp only [lt_i, le_i, eq_i, Int32.reduceToInt] at c_57
            refine jr_iconst (0) dX9_sheet_60 (by decide) ?_
            refine jr_goto 65 dX9_sheet_61 (by decide) ?_
            refine jr_iast q (hw.k rfl) rfl ⟨hq, by decide⟩ dX9_sheet_65 ?_
            refine jr_iconst (0) dX9_sheet_66 (by decide) ?_
            refine jr_istore_4 dX9_sheet_67 (by decide) rfl ?_
            refine L q hq rfl _ (by rw [F_sheet, if_pos (by unfold isS inR; omega), if_neg (by omega), nI_clamp (by omega)]) 24 0 _ rfl ?_ ?_ (fun j => ?_) ((Sm.sR (by unfold scH; omega)).tr (Sm.sR (by unfold scH; omega)))
            · rw [wI_sR_n _ (by decide), wI_sR_s, hR1]
            · rw [wI_sR_s, wI_sR_n _ (by decide), hR2]
              first | (exfalso; omega) | rw [if_pos (by omega)] | rw [if_neg (by omega)]
            · rw [wI_sR_n _ (by decide), wI_sR_n _ (by decide), hR3, if_neg (by omega)]
        · simp only [lt_i, le_i, eq_i, Int32.reduceToInt] at c_33
          refine jr_iload_n dX9_sheet_36 rfl ?_
          refine jr_if_ge 44 dX9_sheet_37 (by decide) (fun c_37 => ?_) (fun c_37 => ?_)
          · simp only [lt_i, le_i, eq_i, Int32.reduceToInt] at c_37
            refine jr_aload_n dX9_sheet_44 rfl ?_
            refine gfX9_19 82 dX9_sheet_45 (hw.k rfl) (hw.f rfl) ?_
            refine jr_iload_n dX9_sheet_48 rfl ?_
            refine jr_iload_n dX9_sheet_49 rfl ?_
            refine jr_iast q (hw.k rfl) rfl ⟨hq, by decide⟩ dX9_sheet_50 ?_
            refine jr_aload_n dX9_sheet_51 rfl ?_
            refine gfX9_22 83 dX9_sheet_52 (hw.k rfl) (hw.f rfl) ?_
            refine jr_iload_n dX9_sheet_55 rfl ?_
            refine jr_iload_n dX9_sheet_56 rfl ?_
            refine jr_if_ge 64 dX9_sheet_57 (by decide) (fun c_57 => ?_) (fun c_57 => ?_)
            · simp only [lt_i, le_i, eq_i, Int32.reduceToInt] at c_57
              refine jr_iload_n dX9_sheet_64 rfl ?_
              refine jr_iast q (hw.k rfl) rfl ⟨hq, by decide⟩ dX9_sheet_65 ?_
              refine jr_iconst (0) dX9_sheet_66 (by decide) ?_
              refine jr_istore_4 dX9_sheet_67 (by decide) rfl ?_
              refine L q hq rfl _ (by rw [F_sheet, if_pos (by unfold isS inR; omega), if_neg (by omega), nI_clamp (by omega)]) 24 0 _ rfl ?_ ?_ (fun j => ?_) ((Sm.sR (by unfold scH; omega)).tr (Sm.sR (by unfold scH; omega)))
              · rw [wI_sR_n _ (by decide), wI_sR_s, hR1]
              · rw [wI_sR_s, wI_sR_n _ (by decide), hR2]
                first | (exfalso; omega) | rw [if_pos (by omega)] | rw [if_neg (by omega)]
              · rw [wI_sR_n _ (by decide), wI_sR_n _ (by decide), hR3, if_neg (by omega)]
            · simp only [lt_i, le_i, eq_i, Int32.reduceToInt] at c_57
              refine jr_iconst (0) dX9_sheet_60 (by decide) ?_
              refine jr_goto 65 dX9_sheet_61 (by decide) ?_
              refine jr_iast q (hw.k rfl) rfl ⟨hq, by decide⟩ dX9_sheet_65 ?_
              refine jr_iconst (0) dX9_sheet_66 (by decide) ?_
              refine jr_istore_4 dX9_sheet_67 (by decide) rfl ?_
              refine L q hq rfl _ (by rw [F_sheet, if_pos (by unfold isS inR; omega), if_neg (by omega), nI_clamp (by omega)]) 24 0 _ rfl ?_ ?_ (fun j => ?_) ((Sm.sR (by unfold scH; omega)).tr (Sm.sR (by unfold scH; omega)))
              · rw [wI_sR_n _ (by decide), wI_sR_s, hR1]
              · rw [wI_sR_s, wI_sR_n _ (by decide), hR2]
                first | (exfalso; omega) | rw [if_pos (by omega)] | rw [if_neg (by omega)]
              · rw [wI_sR_n _ (by decide), wI_sR_n _ (by decide), hR3, if_neg (by omega)]
          · simp only [lt_i, le_i, eq_i, Int32.reduceToInt] at c_37
            refine jr_ldcw (-1000000014) ckX9_298 dX9_sheet_40 ?_
            refine jr_iret rfl dX9_sheet_43 ?_
            exact hQ _ _ (finH (by rw [F_sheet, if_pos (by unfold isS inR; omega), if_pos (by omega)]) (MH.rf ⟨hR1, hR2, hR3⟩))
      · simp only [lt_i, le_i, eq_i, Int32.reduceToInt] at c_20
        refine jr_iload_n dX9_sheet_23 rfl ?_
        refine jr_bipush (24) dX9_sheet_24 (by decide) ?_
        refine jr_icmp_le 32 dX9_sheet_26 (by decide) (fun c_26 => ?_) (fun c_26 => ?_)
        · simp only [lt_i, le_i, eq_i, Int32.reduceToInt] at c_26
          refine jr_iload_n dX9_sheet_32 rfl ?_
          refine jr_if_lt 44 dX9_sheet_33 (by decide) (fun c_33 => ?_) (fun c_33 => ?_)
          · simp only [lt_i, le_i, eq_i, Int32.reduceToInt] at c_33
            refine jr_aload_n dX9_sheet_44 rfl ?_
            refine gfX9_19 82 dX9_sheet_45 (hw.k rfl) (hw.f rfl) ?_
            refine jr_iload_n dX9_sheet_48 rfl ?_
            refine jr_iload_n dX9_sheet_49 rfl ?_
            refine jr_iast q (hw.k rfl) rfl ⟨hq, by decide⟩ dX9_sheet_50 ?_
            refine jr_aload_n dX9_sheet_51 rfl ?_
            refine gfX9_22 83 dX9_sheet_52 (hw.k rfl) (hw.f rfl) ?_
            refine jr_iload_n dX9_sheet_55 rfl ?_
            refine jr_iload_n dX9_sheet_56 rfl ?_
            refine jr_if_ge 64 dX9_sheet_57 (by decide) (fun c_57 => ?_) (fun c_57 => ?_)
            · simp only [lt_i, le_i, eq_i, Int32.reduceToInt] at c_57
              refine jr_iload_n dX9_sheet_64 rfl ?_
              refine jr_iast q (hw.k rfl) rfl ⟨hq, by decide⟩ dX9_sheet_65 ?_
              refine jr_iconst (0) dX9_sheet_66 (by decide) ?_
              refine jr_istore_4 dX9_sheet_67 (by decide) rfl ?_
              refine L q hq rfl _ (by rw [F_sheet, if_pos (by unfold isS inR; omega), if_neg (by omega), nI_clamp (by omega)]) 24 0 _ rfl ?_ ?_ (fun j => ?_) ((Sm.sR (by unfold scH; omega)).tr (Sm.sR (by unfold scH; omega)))
              · rw [wI_sR_n _ (by decide), wI_sR_s, hR1]
              · rw [wI_sR_s, wI_sR_n _ (by decide), hR2]
                first | (exfalso; omega) | rw [if_pos (by omega)] | rw [if_neg (by omega)]
              · rw [wI_sR_n _ (by decide), wI_sR_n _ (by decide), hR3, if_neg (by omega)]
            · simp only [lt_i, le_i, eq_i, Int32.reduceToInt] at c_57
              refine jr_iconst (0) dX9_sheet_60 (by decide) ?_
              refine jr_goto 65 dX9_sheet_61 (by decide) ?_
              refine jr_iast q (hw.k rfl) rfl ⟨hq, by decide⟩ dX9_sheet_65 ?_
              refine jr_iconst (0) dX9_sheet_66 (by decide) ?_
              refine jr_istore_4 dX9_sheet_67 (by decide) rfl ?_
              refine L q hq rfl _ (by rw [F_sheet, if_pos (by unfold isS inR; omega), if_neg (by omega), nI_clamp (by omega)]) 24 0 _ rfl ?_ ?_ (fun j => ?_) ((Sm.sR (by unfold scH; omega)).tr (Sm.sR (by unfold scH; omega)))
              · rw [wI_sR_n _ (by decide), wI_sR_s, hR1]
              · rw [wI_sR_s, wI_sR_n _ (by decide), hR2]
                first | (exfalso; omega) | rw [if_pos (by omega)] | rw [if_neg (by omega)]
              · rw [wI_sR_n _ (by decide), wI_sR_n _ (by decide), hR3, if_neg (by omega)]
          · simp only [lt_i, le_i, eq_i, Int32.reduceToInt] at c_33
            refine jr_iload_n dX9_sheet_36 rfl ?_
            refine jr_if_ge 44 dX9_sheet_37 (by decide) (fun c_37 => ?_) (fun c_37 => ?_)
            · simp only [lt_i, le_i, eq_i, Int32.reduceToInt] at c_37
              refine jr_aload_n dX9_sheet_44 rfl ?_
              refine gfX9_19 82 dX9_sheet_45 (hw.k rfl) (hw.f rfl) ?_
              refine jr_iload_n dX9_sheet_48 rfl ?_
              refine jr_iload_n dX9_sheet_49 rfl ?_
              refine jr_iast q (hw.k rfl) rfl ⟨hq, by decide⟩ dX9_sheet_50 ?_
              refine jr_aload_n dX9_sheet_51 rfl ?_
              refine gfX9_22 83 dX9_sheet_52 (hw.k rfl) (hw.f rfl) ?_
              refine jr_iload_n dX9_sheet_55 rfl ?_
              refine jr_iload_n dX9_sheet_56 rfl ?_
              refine jr_if_ge 64 dX9_sheet_57 (by decide) (fun c_57 => ?_) (fun c_57 => ?_)
              · simp only [lt_i, le_i, eq_i, Int32.reduceToInt] at c_57
                refine jr_iload_n dX9_sheet_64 rfl ?_
                refine jr_iast q (hw.k rfl) rfl ⟨hq, by decide⟩ dX9_sheet_65 ?_
                refine jr_iconst (0) dX9_sheet_66 (by decide) ?_
                refine jr_istore_4 dX9_sheet_67 (by decide) rfl ?_
                refine L q hq rfl _ (by rw [F_sheet, if_pos (by unfold isS inR; omega), if_neg (by omega), nI_clamp (by omega)]) 24 0 _ rfl ?_ ?_ (fun j => ?_) ((Sm.sR (by unfold scH; omega)).tr (Sm.sR (by unfold scH; omega)))
                · rw [wI_sR_n _ (by decide), wI_sR_s, hR1]
                · rw [wI_sR_s, wI_sR_n _ (by decide), hR2]
                  first | (exfalso; omega) | rw [if_pos (by omega)] | rw [if_neg (by omega)]
                · rw [wI_sR_n _ (by decide), wI_sR_n _ (by decide), hR3, if_neg (by omega)]
              · simp only [lt_i, le_i, eq_i, Int32.reduceToInt] at c_57
                refine jr_iconst (0) dX9_sheet_60 (by decide) ?_
                refine jr_goto 65 dX9_sheet_61 (by decide) ?_
                refine jr_iast q (hw.k rfl) rfl ⟨hq, by decide⟩ dX9_sheet_65 ?_
                refine jr_iconst (0) dX9_sheet_66 (by decide) ?_
                refine jr_istore_4 dX9_sheet_67 (by decide) rfl ?_
                refine L q hq rfl _ (by rw [F_sheet, if_pos (by unfold isS inR; omega), if_neg (by omega), nI_clamp (by omega)]) 24 0 _ rfl ?_ ?_ (fun j => ?_) ((Sm.sR (by unfold scH; omega)).tr (Sm.sR (by unfold scH; omega)))
                · rw [wI_sR_n _ (by decide), wI_sR_s, hR1]
                · rw [wI_sR_s, wI_sR_n _ (by decide), hR2]
                  first | (exfalso; omega) | rw [if_pos (by omega)] | rw [if_neg (by omega)]
                · rw [wI_sR_n _ (by decide), wI_sR_n _ (by decide), hR3, if_neg (by omega)]
            · simp only [lt_i, le_i, eq_i, Int32.reduceToInt] at c_37
              refine jr_ldcw (-1000000014) ckX9_298 dX9_sheet_40 ?_
              refine jr_iret rfl dX9_sheet_43 ?_
              exact hQ _ _ (finH (by rw [F_sheet, if_pos (by unfold isS inR; omega), if_pos (by omega)]) (MH.rf ⟨hR1, hR2, hR3⟩))
        · simp only [lt_i, le_i, eq_i, Int32.reduceToInt] at c_26
          refine jr_ldc (-1000000001) ckX9_83 dX9_sheet_29 ?_
          refine jr_iret rfl dX9_sheet_31 ?_
          exact hQ _ _ (finH (by rw [F_sheet, if_neg (by unfold isS inR; omega)]) (MH.rf ⟨hR1, hR2, hR3⟩))
def F_mark (R : Sh) (k p v : Int32) : Int32 × Sh :=
  if ¬ isS k then (-1000000001, R) else if (R.1 k.toNatClampNeg).toInt < 0 then (-1000000011, R)
  else if ¬ (0 ≤ p.toInt ∧ p.toInt < (R.2.1 k.toNatClampNeg).toInt) then (-1000000013, R)
  else if (R.1 k.toNatClampNeg).toInt = 0 ∧ v = -1000000005 then (-1000000012, R)
  else if (R.1 k.toNatClampNeg).toInt = 1 ∧ ¬ v = -1000000005 ∧ ¬ inR v (-99999) 99999 then (-1000000001, R)
  else (1, (R.1, R.2.1, upd R.2.2 (24 * k.toNatClampNeg + p.toNatClampNeg) (if (R.1 k.toNatClampNeg).toInt = 0 then (v <<< ((16 : Int32) &&& 31)) >>> ((16 : Int32) &&& 31) else v)))
theorem m_mark (g : Cx) (w : Wd) (hw : Wf w) (R : Sh) (hR : wI w 82 = R.1 ∧ wI w 83 = R.2.1 ∧ wI w 84 = R.2.2) (hO : ShOk R) (k p v : Int32) : CI g yX9_mark cX9_mark 4 (some .int) 3 0 0 [.ref (gb g + 78), .int k, .int p, .int v] w (fun r w' => r = (F_mark R k p v).1 ∧ MH w w' (F_mark R k p v).2) := by
  obtain ⟨R1, R2, R3⟩ := R
  simp only at hR
  obtain ⟨hR1, hR2, hR3⟩ := hR
  refine CI.of (own := RX9) (nm := "mark") (lv := [some (.ref (gb g + 78)), some (.int k), some (.int p), some (.int v)]) (by decide) rfl rfl (Nat.le_of_ble_eq_true rfl) rfl (fun Q hQ => ?_)
  by_cases hc : isS k
  · obtain ⟨q, hq, ek⟩ := i_of (n := 4) hc.1 hc.2
    subst ek
    obtain ⟨-, n, hn, en⟩ := hO q hq
    simp only at en
    have en2 := i_nI (n := n) (by omega)
    have esub : (nI n - 1).toInt = (n : Int) - 1 := sub1_i (by omega)
    have e0 : F_mark (R1, R2, R3) (nI q) p v = if (R1 q).toInt < 0 then (-1000000011, (R1, R2, R3))
      else if ¬ (0 ≤ p.toInt ∧ p.toInt < (n : Int)) then (-1000000013, (R1, R2, R3))
      else if (R1 q).toInt = 0 ∧ v = -1000000005 then (-1000000012, (R1, R2, R3))
      else if (R1 q).toInt = 1 ∧ ¬ v = -1000000005 ∧ ¬ inR v (-99999) 99999 then (-1000000001, (R1, R2, R3))
      else (1, (R1, R2, upd R3 (24 * q + p.toNatClampNeg) (if (R1 q).toInt = 0 then (v <<< ((16 : Int32) &&& 31)) >>> ((16 : Int32) &&& 31) else v))) := by
      rw [F_mark, if_neg (fun h => h hc), nI_clamp (by omega)]
      simp only [en, en2]
    refine jr_iload_n dX9_mark_0 rfl ?_
    refine jc_Si (c_isSheet g _ _) lkX9_178 rfl rfl (Nat.le_of_ble_eq_true rfl) (Nat.le_of_ble_eq_true rfl) dX9_mark_1 (fun r_1 w_1 h_1 => ?_)
    obtain ⟨rfl, rfl⟩ := h_1
    refine jr_if_ne 10 dX9_mark_4 (by decide) (fun c_4 => ?_) (fun c_4 => absurd c_4 (jb_1.mpr hc))
    refine jr_aload_n dX9_mark_10 rfl ?_
    refine gfX9_19 82 dX9_mark_11 (hw.k rfl) (hw.f rfl) ?_
    refine jr_iload_n dX9_mark_14 rfl ?_
    refine jr_iald q (hw.k rfl) rfl ⟨hq, by decide⟩ dX9_mark_15 ?_
    rw [hR1]
    refine jr_if_ge 22 dX9_mark_16 (by decide) (fun c_16 => ?_) (fun c_16 => ?_)
    · simp only [lt_i, le_i, eq_i, Int32.reduceToInt] at c_16
      refine jr_iload_n dX9_mark_22 rfl ?_
      refine jr_i2l dX9_mark_23 ?_
      refine jr_lconst 0 dX9_mark_24 (by decide) ?_
      refine jr_aload_n dX9_mark_25 rfl ?_
      refine gfX9_22 83 dX9_mark_26 (hw.k rfl) (hw.f rfl) ?_
      refine jr_iload_n dX9_mark_29 rfl ?_
      refine jr_iald q (hw.k rfl) rfl ⟨hq, by decide⟩ dX9_mark_30 ?_
      rw [hR2, en]
      refine jr_iconst (1) dX9_mark_31 (by decide) ?_
      refine jr_isub dX9_mark_32 ?_
      refine jr_i2l dX9_mark_33 ?_
      refine jc_Si (c_isInI g _ _ _ _) lkX9_68 rfl rfl (Nat.le_of_ble_eq_true rfl) (Nat.le_of_ble_eq_true rfl) dX9_mark_34 (fun r_34 w_34 h_34 => ?_)
      obtain ⟨rfl, rfl⟩ := h_34
      refine jr_if_ne 44 dX9_mark_37 (by decide) (fun c_37 => ?_) (fun c_37 => ?_)
      · rw [jb_1] at c_37
        simp only [Int64.reduceToInt] at c_37
        rw [l_of_i, esub] at c_37
        obtain ⟨y, hy, ey⟩ := i_of (n := 24) (x := p) c_37.1 (by omega)
        subst ey
        have ey := i_nI (n := y) (by omega)
        rw [nI_clamp (by omega : y < 2 ^ 31)] at e0
        refine jr_aload_n dX9_mark_44 rfl ?_
        refine gfX9_19 82 dX9_mark_45 (hw.k rfl) (hw.f rfl) ?_
        refine jr_iload_n dX9_mark_48 rfl ?_
        refine jr_iald q (hw.k rfl) rfl ⟨hq, by decide⟩ dX9_mark_49 ?_
        rw [hR1]
        refine jr_if_ne 62 dX9_mark_50 (by decide) (fun c_50 => ?_) (fun c_50 => ?_)
        · simp only [lt_i, le_i, eq_i, Int32.reduceToInt] at c_50
          refine jr_aload_n dX9_mark_62 rfl ?_
          refine gfX9_19 82 dX9_mark_63 (hw.k rfl) (hw.f rfl) ?_
          refine jr_iload_n dX9_mark_66 rfl ?_
          refine jr_iald q (hw.k rfl) rfl ⟨hq, by decide⟩ dX9_mark_67 ?_
          rw [hR1]
          refine jr_iconst (1) dX9_mark_68 (by decide) ?_
          refine jr_icmp_ne 95 dX9_mark_69 (by decide) (fun c_69 => ?_) (fun c_69 => ?_)
          · simp only [lt_i, le_i, eq_i, Int32.reduceToInt] at c_69
            refine jr_aload_n dX9_mark_95 rfl ?_
            refine gfX9_25 84 dX9_mark_96 (hw.k rfl) (hw.f rfl) ?_
            refine jr_bipush (24) dX9_mark_99 (by decide) ?_
            refine jr_iload_n dX9_mark_101 rfl ?_
            refine jr_imul dX9_mark_102 ?_
            refine jr_iload_n dX9_mark_103 rfl ?_
            refine jr_iadd dX9_mark_104 ?_
            refine jr_aload_n dX9_mark_105 rfl ?_
            refine gfX9_19 82 dX9_mark_106 (hw.k rfl) (hw.f rfl) ?_
            refine jr_iload_n dX9_mark_109 rfl ?_
            refine jr_iald q (hw.k rfl) rfl ⟨hq, by decide⟩ dX9_mark_110 ?_
            rw [hR1]
            refine jr_if_ne 124 dX9_mark_111 (by decide) (fun c_111 => ?_) (fun c_111 => ?_)
            · simp only [lt_i, le_i, eq_i, Int32.reduceToInt] at c_111
              refine jr_iload_n dX9_mark_124 rfl ?_
              refine jr_iast (24 * q + y) (hw.k rfl) (by rw [jlit 24, pk_mul, nI_add]) ⟨by omega, by decide⟩ dX9_mark_125 ?_
              refine jr_iconst (1) dX9_mark_126 (by decide) ?_
              refine jr_iret rfl dX9_mark_127 ?_
              refine hQ _ _ (finH (R := (R1, R2, upd R3 (24 * q + y) _)) ?_ ⟨by rw [wI_sR_n _ (by decide)]; exact hR1, by rw [wI_sR_n _ (by decide)]; exact hR2, by rw [wI_sR_s, hR3], Sm.sR (by unfold scH; omega)⟩)
              rw [e0, if_neg (by omega), if_neg (by omega)]
              first | rw [if_neg (fun h => absurd h.1 (by omega)), if_neg (fun h => absurd h.1 (by omega))] | rw [if_neg (fun h => absurd h.2 c_56), if_neg (fun h => absurd h.1 (by omega))] | rw [if_neg (fun h => absurd h.1 (by omega)), if_neg (fun h => h.2.1 c_75)] | rw [if_neg (fun h => absurd h.1 (by omega)), if_neg (fun h => h.2.2 c_89)]
              first | (exfalso; omega) | rw [if_pos (by omega)] | rw [if_neg (by omega)]
            · simp only [lt_i, le_i, eq_i, Int32.reduceToInt] at c_111
              refine jr_iload_n dX9_mark_114 rfl ?_
              refine jr_bipush (16) dX9_mark_115 (by decide) ?_
              refine jr_ishl dX9_mark_117 ?_
              refine jr_bipush (16) dX9_mark_118 (by decide) ?_
              refine jr_ishr dX9_mark_120 ?_
              refine jr_goto 125 dX9_mark_121 (by decide) ?_
              refine jr_iast (24 * q + y) (hw.k rfl) (by rw [jlit 24, pk_mul, nI_add]) ⟨by omega, by decide⟩ dX9_mark_125 ?_
              refine jr_iconst (1) dX9_mark_126 (by decide) ?_
              refine jr_iret rfl dX9_mark_127 ?_
              refine hQ _ _ (finH (R := (R1, R2, upd R3 (24 * q + y) _)) ?_ ⟨by rw [wI_sR_n _ (by decide)]; exact hR1, by rw [wI_sR_n _ (by decide)]; exact hR2, by rw [wI_sR_s, hR3], Sm.sR (by unfold scH; omega)⟩)
              rw [e0, if_neg (by omega), if_neg (by omega)]
              first | rw [if_neg (fun h => absurd h.1 (by omega)), if_neg (fun h => absurd h.1 (by omega))] | rw [if_neg (fun h => absurd h.2 c_56), if_neg (fun h => absurd h.1 (by omega))] | rw [if_neg (fun h => absurd h.1 (by omega)), if_neg (fun h => h.2.1 c_75)] | rw [if_neg (fun h => absurd h.1 (by omega)), if_neg (fun h => h.2.2 c_89)]
              first | (exfalso; omega) | rw [if_pos (by omega)] | rw [if_neg (by omega)]
          · simp only [lt_i, le_i, eq_i, Int32.reduceToInt] at c_69
            refine jr_iload_n dX9_mark_72 rfl ?_
            refine jr_ldc (-1000000005) ckX9_67 dX9_mark_73 ?_
            refine jr_icmp_eq 95 dX9_mark_75 (by decide) (fun c_75 => ?_) (fun c_75 => ?_)
            · refine jr_aload_n dX9_mark_95 rfl ?_
              refine gfX9_25 84 dX9_mark_96 (hw.k rfl) (hw.f rfl) ?_
              refine jr_bipush (24) dX9_mark_99 (by decide) ?_
              refine jr_iload_n dX9_mark_101 rfl ?_
              refine jr_imul dX9_mark_102 ?_
              refine jr_iload_n dX9_mark_103 rfl ?_
              refine jr_iadd dX9_mark_104 ?_
              refine jr_aload_n dX9_mark_105 rfl ?_
              refine gfX9_19 82 dX9_mark_106 (hw.k rfl) (hw.f rfl) ?_
              refine jr_iload_n dX9_mark_109 rfl ?_
              refine jr_iald q (hw.k rfl) rfl ⟨hq, by decide⟩ dX9_mark_110 ?_
              rw [hR1]
              refine jr_if_ne 124 dX9_mark_111 (by decide) (fun c_111 => ?_) (fun c_111 => ?_)
              · simp only [lt_i, le_i, eq_i, Int32.reduceToInt] at c_111
                refine jr_iload_n dX9_mark_124 rfl ?_
                refine jr_iast (24 * q + y) (hw.k rfl) (by rw [jlit 24, pk_mul, nI_add]) ⟨by omega, by decide⟩ dX9_mark_125 ?_
                refine jr_iconst (1) dX9_mark_126 (by decide) ?_
                refine jr_iret rfl dX9_mark_127 ?_
                refine hQ _ _ (finH (R := (R1, R2, upd R3 (24 * q + y) _)) ?_ ⟨by rw [wI_sR_n _ (by decide)]; exact hR1, by rw [wI_sR_n _ (by decide)]; exact hR2, by rw [wI_sR_s, hR3], Sm.sR (by unfold scH; omega)⟩)
                rw [e0, if_neg (by omega), if_neg (by omega)]
                first | rw [if_neg (fun h => absurd h.1 (by omega)), if_neg (fun h => absurd h.1 (by omega))] | rw [if_neg (fun h => absurd h.2 c_56), if_neg (fun h => absurd h.1 (by omega))] | rw [if_neg (fun h => absurd h.1 (by omega)), if_neg (fun h => h.2.1 c_75)] | rw [if_neg (fun h => absurd h.1 (by omega)), if_neg (fun h => h.2.2 c_89)]
                first | (exfalso; omega) | rw [if_pos (by omega)] | rw [if_neg (by omega)]
              · simp only [lt_i, le_i, eq_i, Int32.reduceToInt] at c_111
                refine jr_iload_n dX9_mark_114 rfl ?_
                refine jr_bipush (16) dX9_mark_115 (by decide) ?_
                refine jr_ishl dX9_mark_117 ?_
                refine jr_bipush (16) dX9_mark_118 (by decide) ?_
                refine jr_ishr dX9_mark_120 ?_
                refine jr_goto 125 dX9_mark_121 (by decide) ?_
                refine jr_iast (24 * q + y) (hw.k rfl) (by rw [jlit 24, pk_mul, nI_add]) ⟨by omega, by decide⟩ dX9_mark_125 ?_
                refine jr_iconst (1) dX9_mark_126 (by decide) ?_
                refine jr_iret rfl dX9_mark_127 ?_
                refine hQ _ _ (finH (R := (R1, R2, upd R3 (24 * q + y) _)) ?_ ⟨by rw [wI_sR_n _ (by decide)]; exact hR1, by rw [wI_sR_n _ (by decide)]; exact hR2, by rw [wI_sR_s, hR3], Sm.sR (by unfold scH; omega)⟩)
                rw [e0, if_neg (by omega), if_neg (by omega)]
                first | rw [if_neg (fun h => absurd h.1 (by omega)), if_neg (fun h => absurd h.1 (by omega))] | rw [if_neg (fun h => absurd h.2 c_56), if_neg (fun h => absurd h.1 (by omega))] | rw [if_neg (fun h => absurd h.1 (by omega)), if_neg (fun h => h.2.1 c_75)] | rw [if_neg (fun h => absurd h.1 (by omega)), if_neg (fun h => h.2.2 c_89)]
                first | (exfalso; omega) | rw [if_pos (by omega)] | rw [if_neg (by omega)]
            · refine jr_iload_n dX9_mark_78 rfl ?_
              refine jr_i2l dX9_mark_79 ?_
              refine jr_ldc2 (-99999) ckX9_300 dX9_mark_80 ?_
              refine jr_ldc2 (99999) ckX9_302 dX9_mark_83 ?_
              refine jc_Si (c_isInI g _ _ _ _) lkX9_68 rfl rfl (Nat.le_of_ble_eq_true rfl) (Nat.le_of_ble_eq_true rfl) dX9_mark_86 (fun r_86 w_86 h_86 => ?_)
              obtain ⟨rfl, rfl⟩ := h_86
              refine jr_if_ne 95 dX9_mark_89 (by decide) (fun c_89 => ?_) (fun c_89 => ?_)
              · rw [jb_1] at c_89
                simp only [Int64.reduceToInt] at c_89
                refine jr_aload_n dX9_mark_95 rfl ?_
                refine gfX9_25 84 dX9_mark_96 (hw.k rfl) (hw.f rfl) ?_
                refine jr_bipush (24) dX9_mark_99 (by decide) ?_
                refine jr_iload_n dX9_mark_101 rfl ?_
                refine jr_imul dX9_mark_102 ?_
                refine jr_iload_n dX9_mark_103 rfl ?_
                refine jr_iadd dX9_mark_104 ?_
                refine jr_aload_n dX9_mark_105 rfl ?_
                refine gfX9_19 82 dX9_mark_106 (hw.k rfl) (hw.f rfl) ?_
                refine jr_iload_n dX9_mark_109 rfl ?_
                refine jr_iald q (hw.k rfl) rfl ⟨hq, by decide⟩ dX9_mark_110 ?_
                rw [hR1]
                refine jr_if_ne 124 dX9_mark_111 (by decide) (fun c_111 => ?_) (fun c_111 => ?_)
                · simp only [lt_i, le_i, eq_i, Int32.reduceToInt] at c_111
                  refine jr_iload_n dX9_mark_124 rfl ?_
                  refine jr_iast (24 * q + y) (hw.k rfl) (by rw [jlit 24, pk_mul, nI_add]) ⟨by omega, by decide⟩ dX9_mark_125 ?_
                  refine jr_iconst (1) dX9_mark_126 (by decide) ?_
                  refine jr_iret rfl dX9_mark_127 ?_
                  refine hQ _ _ (finH (R := (R1, R2, upd R3 (24 * q + y) _)) ?_ ⟨by rw [wI_sR_n _ (by decide)]; exact hR1, by rw [wI_sR_n _ (by decide)]; exact hR2, by rw [wI_sR_s, hR3], Sm.sR (by unfold scH; omega)⟩)
                  rw [e0, if_neg (by omega), if_neg (by omega)]
                  first | rw [if_neg (fun h => absurd h.1 (by omega)), if_neg (fun h => absurd h.1 (by omega))] | rw [if_neg (fun h => absurd h.2 c_56), if_neg (fun h => absurd h.1 (by omega))] | rw [if_neg (fun h => absurd h.1 (by omega)), if_neg (fun h => h.2.1 c_75)] | rw [if_neg (fun h => absurd h.1 (by omega)), if_neg (fun h => h.2.2 c_89)]
                  first | (exfalso; omega) | rw [if_pos (by omega)] | rw [if_neg (by omega)]
                · simp only [lt_i, le_i, eq_i, Int32.reduceToInt] at c_111
                  refine jr_iload_n dX9_mark_114 rfl ?_
                  refine jr_bipush (16) dX9_mark_115 (by decide) ?_
                  refine jr_ishl dX9_mark_117 ?_
                  refine jr_bipush (16) dX9_mark_118 (by decide) ?_
                  refine jr_ishr dX9_mark_120 ?_
                  refine jr_goto 125 dX9_mark_121 (by decide) ?_
                  refine jr_iast (24 * q + y) (hw.k rfl) (by rw [jlit 24, pk_mul, nI_add]) ⟨by omega, by decide⟩ dX9_mark_125 ?_
                  refine jr_iconst (1) dX9_mark_126 (by decide) ?_
                  refine jr_iret rfl dX9_mark_127 ?_
                  refine hQ _ _ (finH (R := (R1, R2, upd R3 (24 * q + y) _)) ?_ ⟨by rw [wI_sR_n _ (by decide)]; exact hR1, by rw [wI_sR_n _ (by decide)]; exact hR2, by rw [wI_sR_s, hR3], Sm.sR (by unfold scH; omega)⟩)
                  rw [e0, if_neg (by omega), if_neg (by omega)]
                  first | rw [if_neg (fun h => absurd h.1 (by omega)), if_neg (fun h => absurd h.1 (by omega))] | rw [if_neg (fun h => absurd h.2 c_56), if_neg (fun h => absurd h.1 (by omega))] | rw [if_neg (fun h => absurd h.1 (by omega)), if_neg (fun h => h.2.1 c_75)] | rw [if_neg (fun h => absurd h.1 (by omega)), if_neg (fun h => h.2.2 c_89)]
                  first | (exfalso; omega) | rw [if_pos (by omega)] | rw [if_neg (by omega)]
              · rw [jb_0] at c_89
                simp only [Int64.reduceToInt] at c_89
                refine jr_ldc (-1000000001) ckX9_83 dX9_mark_92 ?_
                refine jr_iret rfl dX9_mark_94 ?_
                exact hQ _ _ (finH (by rw [e0, if_neg (by omega), if_neg (by omega), if_neg (fun h => absurd h.1 (by omega)), if_pos ⟨by omega, c_75, by unfold inR; omega⟩]) (MH.rf ⟨hR1, hR2, hR3⟩))
        · simp only [lt_i, le_i, eq_i, Int32.reduceToInt] at c_50
          refine jr_iload_n dX9_mark_53 rfl ?_
          refine jr_ldc (-1000000005) ckX9_67 dX9_mark_54 ?_
          refine jr_icmp_ne 62 dX9_mark_56 (by decide) (fun c_56 => ?_) (fun c_56 => ?_)
          · refine jr_aload_n dX9_mark_62 rfl ?_
            refine gfX9_19 82 dX9_mark_63 (hw.k rfl) (hw.f rfl) ?_
            refine jr_iload_n dX9_mark_66 rfl ?_
            refine jr_iald q (hw.k rfl) rfl ⟨hq, by decide⟩ dX9_mark_67 ?_
            rw [hR1]
            refine jr_iconst (1) dX9_mark_68 (by decide) ?_
            refine jr_icmp_ne 95 dX9_mark_69 (by decide) (fun c_69 => ?_) (fun c_69 => ?_)
            · simp only [lt_i, le_i, eq_i, Int32.reduceToInt] at c_69
              refine jr_aload_n dX9_mark_95 rfl ?_
              refine gfX9_25 84 dX9_mark_96 (hw.k rfl) (hw.f rfl) ?_
              refine jr_bipush (24) dX9_mark_99 (by decide) ?_
              refine jr_iload_n dX9_mark_101 rfl ?_
              refine jr_imul dX9_mark_102 ?_
              refine jr_iload_n dX9_mark_103 rfl ?_
              refine jr_iadd dX9_mark_104 ?_
              refine jr_aload_n dX9_mark_105 rfl ?_
              refine gfX9_19 82 dX9_mark_106 (hw.k rfl) (hw.f rfl) ?_
              refine jr_iload_n dX9_mark_109 rfl ?_
              refine jr_iald q (hw.k rfl) rfl ⟨hq, by decide⟩ dX9_mark_110 ?_
              rw [hR1]
              refine jr_if_ne 124 dX9_mark_111 (by decide) (fun c_111 => ?_) (fun c_111 => ?_)
              · simp only [lt_i, le_i, eq_i, Int32.reduceToInt] at c_111
                refine jr_iload_n dX9_mark_124 rfl ?_
                refine jr_iast (24 * q + y) (hw.k rfl) (by rw [jlit 24, pk_mul, nI_add]) ⟨by omega, by decide⟩ dX9_mark_125 ?_
                refine jr_iconst (1) dX9_mark_126 (by decide) ?_
                refine jr_iret rfl dX9_mark_127 ?_
                refine hQ _ _ (finH (R := (R1, R2, upd R3 (24 * q + y) _)) ?_ ⟨by rw [wI_sR_n _ (by decide)]; exact hR1, by rw [wI_sR_n _ (by decide)]; exact hR2, by rw [wI_sR_s, hR3], Sm.sR (by unfold scH; omega)⟩)
                rw [e0, if_neg (by omega), if_neg (by omega)]
                first | rw [if_neg (fun h => absurd h.1 (by omega)), if_neg (fun h => absurd h.1 (by omega))] | rw [if_neg (fun h => absurd h.2 c_56), if_neg (fun h => absurd h.1 (by omega))] | rw [if_neg (fun h => absurd h.1 (by omega)), if_neg (fun h => h.2.1 c_75)] | rw [if_neg (fun h => absurd h.1 (by omega)), if_neg (fun h => h.2.2 c_89)]
                first | (exfalso; omega) | rw [if_pos (by omega)] | rw [if_neg (by omega)]
              · simp only [lt_i, le_i, eq_i, Int32.reduceToInt] at c_111
                refine jr_iload_n dX9_mark_114 rfl ?_
                refine jr_bipush (16) dX9_mark_115 (by decide) ?_
                refine jr_ishl dX9_mark_117 ?_
                refine jr_bipush (16) dX9_mark_118 (by decide) ?_
                refine jr_ishr dX9_mark_120 ?_
                refine jr_goto 125 dX9_mark_121 (by decide) ?_
                refine jr_iast (24 * q + y) (hw.k rfl) (by rw [jlit 24, pk_mul, nI_add]) ⟨by omega, by decide⟩ dX9_mark_125 ?_
                refine jr_iconst (1) dX9_mark_126 (by decide) ?_
                refine jr_iret rfl dX9_mark_127 ?_
                refine hQ _ _ (finH (R := (R1, R2, upd R3 (24 * q + y) _)) ?_ ⟨by rw [wI_sR_n _ (by decide)]; exact hR1, by rw [wI_sR_n _ (by decide)]; exact hR2, by rw [wI_sR_s, hR3], Sm.sR (by unfold scH; omega)⟩)
                rw [e0, if_neg (by omega), if_neg (by omega)]
                first | rw [if_neg (fun h => absurd h.1 (by omega)), if_neg (fun h => absurd h.1 (by omega))] | rw [if_neg (fun h => absurd h.2 c_56), if_neg (fun h => absurd h.1 (by omega))] | rw [if_neg (fun h => absurd h.1 (by omega)), if_neg (fun h => h.2.1 c_75)] | rw [if_neg (fun h => absurd h.1 (by omega)), if_neg (fun h => h.2.2 c_89)]
                first | (exfalso; omega) | rw [if_pos (by omega)] | rw [if_neg (by omega)]
            · simp only [lt_i, le_i, eq_i, Int32.reduceToInt] at c_69
              refine jr_iload_n dX9_mark_72 rfl ?_
              refine jr_ldc (-1000000005) ckX9_67 dX9_mark_73 ?_
              refine jr_icmp_eq 95 dX9_mark_75 (by decide) (fun c_75 => ?_) (fun c_75 => ?_)
              · refine jr_aload_n dX9_mark_95 rfl ?_
                refine gfX9_25 84 dX9_mark_96 (hw.k rfl) (hw.f rfl) ?_
                refine jr_bipush (24) dX9_mark_99 (by decide) ?_
                refine jr_iload_n dX9_mark_101 rfl ?_
                refine jr_imul dX9_mark_102 ?_
                refine jr_iload_n dX9_mark_103 rfl ?_
                refine jr_iadd dX9_mark_104 ?_
                refine jr_aload_n dX9_mark_105 rfl ?_
                refine gfX9_19 82 dX9_mark_106 (hw.k rfl) (hw.f rfl) ?_
                refine jr_iload_n dX9_mark_109 rfl ?_
                refine jr_iald q (hw.k rfl) rfl ⟨hq, by decide⟩ dX9_mark_110 ?_
                rw [hR1]
                refine jr_if_ne 124 dX9_mark_111 (by decide) (fun c_111 => ?_) (fun c_111 => ?_)
                · simp only [lt_i, le_i, eq_i, Int32.reduceToInt] at c_111
                  refine jr_iload_n dX9_mark_124 rfl ?_
                  refine jr_iast (24 * q + y) (hw.k rfl) (by rw [jlit 24, pk_mul, nI_add]) ⟨by omega, by decide⟩ dX9_mark_125 ?_
                  refine jr_iconst (1) dX9_mark_126 (by decide) ?_
                  refine jr_iret rfl dX9_mark_127 ?_
                  refine hQ _ _ (finH (R := (R1, R2, upd R3 (24 * q + y) _)) ?_ ⟨by rw [wI_sR_n _ (by decide)]; exact hR1, by rw [wI_sR_n _ (by decide)]; exact hR2, by rw [wI_sR_s, hR3], Sm.sR (by unfold scH; omega)⟩)
                  rw [e0, if_neg (by omega), if_neg (by omega)]
                  first | rw [if_neg (fun h => absurd h.1 (by omega)), if_neg (fun h => absurd h.1 (by omega))] | rw [if_neg (fun h => absurd h.2 c_56), if_neg (fun h => absurd h.1 (by omega))] | rw [if_neg (fun h => absurd h.1 (by omega)), if_neg (fun h => h.2.1 c_75)] | rw [if_neg (fun h => absurd h.1 (by omega)), if_neg (fun h => h.2.2 c_89)]
                  first | (exfalso; omega) | rw [if_pos (by omega)] | rw [if_neg (by omega)]
                · simp only [lt_i, le_i, eq_i, Int32.reduceToInt] at c_111
                  refine jr_iload_n dX9_mark_114 rfl ?_
                  refine jr_bipush (16) dX9_mark_115 (by decide) ?_
                  refine jr_ishl dX9_mark_117 ?_
                  refine jr_bipush (16) dX9_mark_118 (by decide) ?_
                  refine jr_ishr dX9_mark_120 ?_
                  refine jr_goto 125 dX9_mark_121 (by decide) ?_
                  refine jr_iast (24 * q + y) (hw.k rfl) (by rw [jlit 24, pk_mul, nI_add]) ⟨by omega, by decide⟩ dX9_mark_125 ?_
                  refine jr_iconst (1) dX9_mark_126 (by decide) ?_
                  refine jr_iret rfl dX9_mark_127 ?_
                  refine hQ _ _ (finH (R := (R1, R2, upd R3 (24 * q + y) _)) ?_ ⟨by rw [wI_sR_n _ (by decide)]; exact hR1, by rw [wI_sR_n _ (by decide)]; exact hR2, by rw [wI_sR_s, hR3], Sm.sR (by unfold scH; omega)⟩)
                  rw [e0, if_neg (by omega), if_neg (by omega)]
                  first | rw [if_neg (fun h => absurd h.1 (by omega)), if_neg (fun h => absurd h.1 (by omega))] | rw [if_neg (fun h => absurd h.2 c_56), if_neg (fun h => absurd h.1 (by omega))] | rw [if_neg (fun h => absurd h.1 (by omega)), if_neg (fun h => h.2.1 c_75)] | rw [if_neg (fun h => absurd h.1 (by omega)), if_neg (fun h => h.2.2 c_89)]
                  first | (exfalso; omega) | rw [if_pos (by omega)] | rw [if_neg (by omega)]
              · refine jr_iload_n dX9_mark_78 rfl ?_
                refine jr_i2l dX9_mark_79 ?_
                refine jr_ldc2 (-99999) ckX9_300 dX9_mark_80 ?_
                refine jr_ldc2 (99999) ckX9_302 dX9_mark_83 ?_
                refine jc_Si (c_isInI g _ _ _ _) lkX9_68 rfl rfl (Nat.le_of_ble_eq_true rfl) (Nat.le_of_ble_eq_true rfl) dX9_mark_86 (fun r_86 w_86 h_86 => ?_)
                obtain ⟨rfl, rfl⟩ := h_86
                refine jr_if_ne 95 dX9_mark_89 (by decide) (fun c_89 => ?_) (fun c_89 => ?_)
                · rw [jb_1] at c_89
                  simp only [Int64.reduceToInt] at c_89
                  refine jr_aload_n dX9_mark_95 rfl ?_
                  refine gfX9_25 84 dX9_mark_96 (hw.k rfl) (hw.f rfl) ?_
                  refine jr_bipush (24) dX9_mark_99 (by decide) ?_
                  refine jr_iload_n dX9_mark_101 rfl ?_
                  refine jr_imul dX9_mark_102 ?_
                  refine jr_iload_n dX9_mark_103 rfl ?_
                  refine jr_iadd dX9_mark_104 ?_
                  refine jr_aload_n dX9_mark_105 rfl ?_
                  refine gfX9_19 82 dX9_mark_106 (hw.k rfl) (hw.f rfl) ?_
                  refine jr_iload_n dX9_mark_109 rfl ?_
                  refine jr_iald q (hw.k rfl) rfl ⟨hq, by decide⟩ dX9_mark_110 ?_
                  rw [hR1]
                  refine jr_if_ne 124 dX9_mark_111 (by decide) (fun c_111 => ?_) (fun c_111 => ?_)
                  · simp only [lt_i, le_i, eq_i, Int32.reduceToInt] at c_111
                    refine jr_iload_n dX9_mark_124 rfl ?_
                    refine jr_iast (24 * q + y) (hw.k rfl) (by rw [jlit 24, pk_mul, nI_add]) ⟨by omega, by decide⟩ dX9_mark_125 ?_
                    refine jr_iconst (1) dX9_mark_126 (by decide) ?_
                    refine jr_iret rfl dX9_mark_127 ?_
                    refine hQ _ _ (finH (R := (R1, R2, upd R3 (24 * q + y) _)) ?_ ⟨by rw [wI_sR_n _ (by decide)]; exact hR1, by rw [wI_sR_n _ (by decide)]; exact hR2, by rw [wI_sR_s, hR3], Sm.sR (by unfold scH; omega)⟩)
                    rw [e0, if_neg (by omega), if_neg (by omega)]
                    first | rw [if_neg (fun h => absurd h.1 (by omega)), if_neg (fun h => absurd h.1 (by omega))] | rw [if_neg (fun h => absurd h.2 c_56), if_neg (fun h => absurd h.1 (by omega))] | rw [if_neg (fun h => absurd h.1 (by omega)), if_neg (fun h => h.2.1 c_75)] | rw [if_neg (fun h => absurd h.1 (by omega)), if_neg (fun h => h.2.2 c_89)]
                    first | (exfalso; omega) | rw [if_pos (by omega)] | rw [if_neg (by omega)]
                  · simp only [lt_i, le_i, eq_i, Int32.reduceToInt] at c_111
                    refine jr_iload_n dX9_mark_114 rfl ?_
                    refine jr_bipush (16) dX9_mark_115 (by decide) ?_
                    refine jr_ishl dX9_mark_117 ?_
                    refine jr_bipush (16) dX9_mark_118 (by decide) ?_
                    refine jr_ishr dX9_mark_120 ?_
                    refine jr_goto 125 dX9_mark_121 (by decide) ?_
                    refine jr_iast (24 * q + y) (hw.k rfl) (by rw [jlit 24, pk_mul, nI_add]) ⟨by omega, by decide⟩ dX9_mark_125 ?_
                    refine jr_iconst (1) dX9_mark_126 (by decide) ?_
                    refine jr_iret rfl dX9_mark_127 ?_
                    refine hQ _ _ (finH (R := (R1, R2, upd R3 (24 * q + y) _)) ?_ ⟨by rw [wI_sR_n _ (by decide)]; exact hR1, by rw [wI_sR_n _ (by decide)]; exact hR2, by rw [wI_sR_s, hR3], Sm.sR (by unfold scH; omega)⟩)
                    rw [e0, if_neg (by omega), if_neg (by omega)]
                    first | rw [if_neg (fun h => absurd h.1 (by omega)), if_neg (fun h => absurd h.1 (by omega))] | rw [if_neg (fun h => absurd h.2 c_56), if_neg (fun h => absurd h.1 (by omega))] | rw [if_neg (fun h => absurd h.1 (by omega)), if_neg (fun h => h.2.1 c_75)] | rw [if_neg (fun h => absurd h.1 (by omega)), if_neg (fun h => h.2.2 c_89)]
                    first | (exfalso; omega) | rw [if_pos (by omega)] | rw [if_neg (by omega)]
                · rw [jb_0] at c_89
                  simp only [Int64.reduceToInt] at c_89
                  refine jr_ldc (-1000000001) ckX9_83 dX9_mark_92 ?_
                  refine jr_iret rfl dX9_mark_94 ?_
                  exact hQ _ _ (finH (by rw [e0, if_neg (by omega), if_neg (by omega), if_neg (fun h => absurd h.1 (by omega)), if_pos ⟨by omega, c_75, by unfold inR; omega⟩]) (MH.rf ⟨hR1, hR2, hR3⟩))
          · refine jr_ldc (-1000000012) ckX9_125 dX9_mark_59 ?_
            refine jr_iret rfl dX9_mark_61 ?_
            exact hQ _ _ (finH (by rw [e0, if_neg (by omega), if_neg (by omega), if_pos ⟨by omega, c_56⟩]) (MH.rf ⟨hR1, hR2, hR3⟩))
      · rw [jb_0] at c_37
        simp only [Int64.reduceToInt] at c_37
        rw [l_of_i, esub] at c_37
        refine jr_ldcw (-1000000013) ckX9_299 dX9_mark_40 ?_
        refine jr_iret rfl dX9_mark_43 ?_
        exact hQ _ _ (finH (by rw [e0, if_neg (by omega), if_pos (by omega)]) (MH.rf ⟨hR1, hR2, hR3⟩))
    · simp only [lt_i, le_i, eq_i, Int32.reduceToInt] at c_16
      refine jr_ldc (-1000000011) ckX9_181 dX9_mark_19 ?_
      refine jr_iret rfl dX9_mark_21 ?_
      exact hQ _ _ (finH (by rw [e0, if_pos (by omega)]) (MH.rf ⟨hR1, hR2, hR3⟩))
  · refine jr_iload_n dX9_mark_0 rfl ?_
    refine jc_Si (c_isSheet g _ _) lkX9_178 rfl rfl (Nat.le_of_ble_eq_true rfl) (Nat.le_of_ble_eq_true rfl) dX9_mark_1 (fun r_1 w_1 h_1 => ?_)
    obtain ⟨rfl, rfl⟩ := h_1
    refine jr_if_ne 10 dX9_mark_4 (by decide) (fun c_4 => absurd (jb_f hc) c_4) (fun c_4 => ?_)
    refine jr_ldc (-1000000001) ckX9_83 dX9_mark_7 ?_
    refine jr_iret rfl dX9_mark_9 ?_
    exact hQ _ _ (finH (by rw [F_mark, if_pos hc]) (MH.rf ⟨hR1, hR2, hR3⟩))
