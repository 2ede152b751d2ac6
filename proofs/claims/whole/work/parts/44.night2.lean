-- nights of the class: draws, minutes, clocks that come
theorem c_draw (g : Cx) (w : Wd) (hw : Wf w) (a : Nat) (hA : NA a) : CI g yX2_draw cX2_draw 1 (some .int) 1 0 0 [.ref (gb g + a)] w (fun r w' => r = drawV (wI w a 8) ∧ w' = sR w a (upd (wI w a) 8 (drawZ (wI w a 8)))) := by
  refine CI.of (own := RX2) (nm := "draw") (lv := [some (.ref (gb g + a))]) (by decide) rfl rfl (Nat.le_of_ble_eq_true rfl) rfl (fun Q hQ => ?_)
  refine jr_aload_n dX2_draw_0 rfl ?_
  refine jr_aload_n dX2_draw_1 rfl ?_
  refine gfX2_39 dX2_draw_2 (hA.n hw) ?_
  refine jr_ldc (1103515245) ckX2_86 dX2_draw_5 ?_
  refine jr_imul dX2_draw_7 ?_
  refine jr_sipush (12345) dX2_draw_8 (by decide) ?_
  refine jr_iadd dX2_draw_11 ?_
  refine pfX2_39 dX2_draw_12 (hA.n hw) ?_
  refine jr_aload_n dX2_draw_15 rfl ?_
  refine gfX2_39 dX2_draw_16 (hA.n hw) ?_
  refine jr_bipush (8) dX2_draw_19 (by decide) ?_
  refine jr_iushr dX2_draw_21 ?_
  refine jr_iret rfl dX2_draw_22 ?_
  exact hQ _ _ ⟨by simp only [wI_sR_s, pk_us]; rfl, rfl⟩
def scN (a : Nat) : Nat → Prop := fun i => i = a ∨ i = a + 2
theorem hear_fin {w w' : Wd} {a n : Nat} {s : Nat → Int32} (hA : NA a) (hG : Gd s) (hN : NR w a s) (hS : Sm (scN a) w w')
    (h1 : NR1 (wI w' a) (minF s n)) (h2 : NR2 (wI w' (a + 2)) (minF s n)) : NR w' a (minF s n) := by
  have hX := min_X s n
  have hl := hA.le
  refine ⟨h1, h2, ?_, ?_, ?_⟩
  · intro k hk
    rw [hS.row (i := a + 5 + k) (fun e => by unfold scN at e; omega)]
    obtain ⟨c1, c2, c3⟩ := hN.2.2.1 k hk
    refine ⟨?_, ?_, ?_⟩
    · rw [c1, min_o s n (by omega) (by omega) (by omega) (by omega) (by omega) (by omega) (by omega)]
    · rw [c2, min_o s n (by omega) (by omega) (by omega) (by omega) (by omega) (by omega) (by omega)]
    · rw [c3, min_o s n (by omega) (by omega) (by omega) (by omega) (by omega) (by omega) (by omega)]
  · rw [hS.row (i := a + 4) (fun e => by unfold scN at e; omega)]
    intro q hq
    rw [lwF_same hX]
    exact hN.2.2.2.1 q hq
  · rw [hS.F]
    have h5 := hN.2.2.2.2.same hX hG.2.2.2.2.2.2.2.2
    intro t ht
    obtain ⟨b, hb1, hb2⟩ := h5 t ht
    exact ⟨b, hb1, hb2.sm hS (fun i k1 k2 e => by unfold scN at e; omega)⟩
theorem c_hear (g : Cx) (w : Wd) (hw : Wf w) (a : Nat) (hA : NA a) (s : Nat → Int32) (hG : Gd s) (hN : NR w a s) (n : Nat) (hn : n ≤ 96) : CV g yX2_hearMinute cX2_hearMinute 4 2 0 0 [.ref (gb g + a), .int (nI n)] w (fun w' => NR w' a (minF s n) ∧ Sm (scN a) w w') := by
  obtain ⟨n1, n2, n3, n4, n5, n6, n7, n8, n10, n12⟩ := hN.1
  have h8 : Nb s 8 12 := hG.2.2.2.2.2.1
  have h82 := h8.2
  have e8 : (s 8).toInt = (sN s 8 : Int) := by rw [h8.1, i_nI (by omega)]
  have e81 : (s 8 + 1).toInt = (sN s 8 : Int) + 1 := by rw [h8.1, nI_1, i_nI (by omega)]; omega
  have ne1 : a + 2 ≠ a := by omega
  have ne2 : a ≠ a + 2 := by omega
  have htk := tk_le (s 6) (s 9) n
  have hsA : Sm (scN a) w w := Sm.rf
  refine CV.of (own := RX2) (nm := "hearMinute") (lv := [some (.ref (gb g + a)), some (.int (nI n)), none, none]) (by decide) rfl rfl (Nat.le_of_ble_eq_true rfl) rfl (fun Q hQ => ?_)
  have K81 : ∀ (F : Nat → Int32) (mk : Nat) (i3 : Option Value), F 1 = s 0 → F 2 = s 6 → F 3 = s 7 → F 4 = s 3 + nI (tkF (s 6) (s 9) n) → F 5 = s 4 + nI (n - tkF (s 6) (s 9) n) → F 6 = s 5 + nI mk → F 7 = s 2 → F 8 = drawZ (zN (s 9) n) → F 10 = s 8 → F 12 = s 1 → mk = mkF (s 7) (zN (s 9) n) → RR g RX2 cX2_hearMinute 4 none "hearMinute" 2 0 0 0 0 81 [some (.ref (gb g + a)), some (.int (nI n)), some (.int (nI (tkF (s 6) (s 9) n + mk))), i3] [] (sR w a F) Q := by
    intro F mk i3 f1 f2 f3 f4 f5 f6 f7 f8 f10 f12 emk
    have hm : (if (s 8 + 1).toInt < (12 : Int32).toInt then s 8 + 1 else 12) = minF s n 8 := by
      have e12 : (12 : Int32).toInt = 12 := rfl
      rw [min_8, e12]
      by_cases c : 12 ≤ (s 8).toInt
      · rw [if_neg (by omega), if_pos c, h8.1, show sN s 8 = 12 by omega]; rfl
      · rw [if_neg c]
        by_cases c2 : (s 8 + 1).toInt < 12
        · rw [if_pos c2]
        · rw [if_neg c2, h8.1, nI_1, show sN s 8 + 1 = 12 by omega]; rfl
    refine jr_aload_n dX2_hearMinute_81 rfl ?_
    refine gfX2_42 (a + 2) dX2_hearMinute_82 (hA.n hw) (hA.ro hw) ?_
    refine jr_iconst (0) dX2_hearMinute_85 (by decide) ?_
    refine jr_aload_n dX2_hearMinute_86 rfl ?_
    refine gfX2_42 (a + 2) dX2_hearMinute_87 (hA.n hw) (hA.ro hw) ?_
    refine jr_iconst (1) dX2_hearMinute_90 (by decide) ?_
    refine jr_bipush (11) dX2_hearMinute_91 (by decide) ?_
    refine jr_acopy 0 1 11 lkX2_67 ac_nat ac_stt ac_ini (hA.o hw) (hA.o hw) rfl rfl rfl ⟨by decide, by decide, by decide, by decide⟩ (Nat.le_of_ble_eq_true rfl) (Nat.le_of_ble_eq_true rfl) dX2_hearMinute_93 ?_
    rw [wI_sR_n _ ne1]
    refine jr_aload_n dX2_hearMinute_96 rfl ?_
    refine gfX2_42 (a + 2) dX2_hearMinute_97 (hA.n hw) (hA.ro hw) ?_
    refine jr_iconst (0) dX2_hearMinute_100 (by decide) ?_
    refine jr_iload_n dX2_hearMinute_101 rfl ?_
    refine jr_iast 0 (hA.o hw) rfl (by decide) dX2_hearMinute_102 ?_
    rw [sR_sR, wI_sR_s]
    refine jr_aload_n dX2_hearMinute_103 rfl ?_
    refine jr_bipush (12) dX2_hearMinute_104 (by decide) ?_
    refine jr_aload_n dX2_hearMinute_106 rfl ?_
    refine gfX2_46 dX2_hearMinute_107 (hA.n hw) ?_
    rw [wI_sR_n _ ne2, wI_sR_s, f10]
    refine jr_iconst (1) dX2_hearMinute_110 (by decide) ?_
    refine jr_iadd dX2_hearMinute_111 ?_
    refine jc_Si (c_min g _ _ _) lkX2_141 rfl rfl (Nat.le_of_ble_eq_true rfl) (Nat.le_of_ble_eq_true rfl) dX2_hearMinute_112 (fun r_112 w_112 h_112 => ?_)
    obtain ⟨rfl, rfl⟩ := h_112
    rw [hm]
    refine pfX2_46 dX2_hearMinute_115 (hA.n hw) ?_
    rw [wI_sR_n _ ne2, wI_sR_s]
    refine jr_aload_n dX2_hearMinute_118 rfl ?_
    refine jr_dup dX2_hearMinute_119 rfl ?_
    refine gfX2_36 dX2_hearMinute_120 (hA.n hw) ?_
    rw [wI_sR_s, pk_un (by decide), f7]
    refine jr_iconst (1) dX2_hearMinute_123 (by decide) ?_
    refine jr_iadd dX2_hearMinute_124 ?_
    refine pfX2_36 dX2_hearMinute_125 (hA.n hw) ?_
    rw [sR_sR, wI_sR_s]
    refine jr_vret rfl dX2_hearMinute_128 ?_
    have hS9 : Sm (scN a) w (sR (sR (sR w a F) (a + 2) (upd (va_cpy (wI w (a + 2)) (wI w (a + 2)) 0 1 11) 0 (nI (tkF (s 6) (s 9) n + mk)))) a (upd (upd F 10 (minF s n 8)) 7 (s 2 + 1))) := ((Sm.sR (Or.inl rfl)).tr (Sm.sR (Or.inr rfl))).tr (Sm.sR (Or.inl rfl))
    refine hQ _ ⟨hear_fin hA hG hN hS9 ?_ ?_, hS9⟩
    · rw [wI_sR_s]
      refine ⟨?_, ?_, ?_, ?_, ?_, ?_, ?_, ?_, ?_, ?_⟩
      · rw [pk_un (by decide), pk_un (by decide), f1, min_o s n (by decide) (by decide) (by decide) (by decide) (by decide) (by decide) (by omega)]
      · rw [pk_un (by decide), pk_un (by decide), f2, min_o s n (by decide) (by decide) (by decide) (by decide) (by decide) (by decide) (by omega)]
      · rw [pk_un (by decide), pk_un (by decide), f3, min_o s n (by decide) (by decide) (by decide) (by decide) (by decide) (by decide) (by omega)]
      · rw [pk_un (by decide), pk_un (by decide), f4]; rfl
      · rw [pk_un (by decide), pk_un (by decide), f5]; rfl
      · rw [pk_un (by decide), pk_un (by decide), f6, emk]; rfl
      · rw [pk_us, min_2]
      · rw [pk_un (by decide), pk_un (by decide), f8]; rfl
      · rw [pk_un (by decide), pk_us]
      · rw [pk_un (by decide), pk_un (by decide), f12, min_o s n (by decide) (by decide) (by decide) (by decide) (by decide) (by decide) (by omega)]
    · rw [wI_sR_n _ ne1, wI_sR_s]
      intro j hj
      by_cases hj0 : j = 0
      · subst hj0
        rw [pk_us, min_28, emk]
      · rw [pk_un hj0, pk_cpy_in (by omega) (by omega), min_n s n (by omega), hN.2.1 _ (by omega)]
        congr 1
        omega
  have K32 : ∀ (F : Nat → Int32) (i3 : Option Value), F 8 = zN (s 9) n → (∀ j, j ≠ 8 → F j = wI w a j) → RR g RX2 cX2_hearMinute 4 none "hearMinute" 2 0 0 0 0 32 [some (.ref (gb g + a)), some (.int (nI n)), some (.int (nI (tkF (s 6) (s 9) n))), i3] [] (sR w a F) Q := by
    intro F i3 f8 fo
    have g1 : ∀ F', F' = upd (upd (upd F 4 (F 4 + nI (tkF (s 6) (s 9) n))) 5 (F 5 + (nI n - nI (tkF (s 6) (s 9) n)))) 8 (drawZ (zN (s 9) n)) → F' 1 = s 0 ∧ F' 2 = s 6 ∧ F' 3 = s 7 ∧ F' 4 = s 3 + nI (tkF (s 6) (s 9) n) ∧ F' 5 = s 4 + nI (n - tkF (s 6) (s 9) n) ∧ F' 6 = s 5 ∧ F' 7 = s 2 ∧ F' 8 = drawZ (zN (s 9) n) ∧ F' 10 = s 8 ∧ F' 12 = s 1 := by
      intro F' e
      subst e
      refine ⟨?_, ?_, ?_, ?_, ?_, ?_, ?_, ?_, ?_, ?_⟩
      · rw [pk_un (by decide), pk_un (by decide), pk_un (by decide), fo _ (by decide), n1]
      · rw [pk_un (by decide), pk_un (by decide), pk_un (by decide), fo _ (by decide), n2]
      · rw [pk_un (by decide), pk_un (by decide), pk_un (by decide), fo _ (by decide), n3]
      · rw [pk_un (by decide), pk_un (by decide), pk_us, fo _ (by decide), n4]
      · rw [pk_un (by decide), pk_us, fo _ (by decide), n5, pk_sub htk]
      · rw [pk_un (by decide), pk_un (by decide), pk_un (by decide), fo _ (by decide), n6]
      · rw [pk_un (by decide), pk_un (by decide), pk_un (by decide), fo _ (by decide), n7]
      · rw [pk_us]
      · rw [pk_un (by decide), pk_un (by decide), pk_un (by decide), fo _ (by decide), n10]
      · rw [pk_un (by decide), pk_un (by decide), pk_un (by decide), fo _ (by decide), n12]
    obtain ⟨F', eF'⟩ : ∃ F', F' = upd (upd (upd F 4 (F 4 + nI (tkF (s 6) (s 9) n))) 5 (F 5 + (nI n - nI (tkF (s 6) (s 9) n)))) 8 (drawZ (zN (s 9) n)) := ⟨_, rfl⟩
    obtain ⟨f1, f2, f3, f4, f5, f6, f7, f8', f10, f12⟩ := g1 F' eF'
    refine jr_aload_n dX2_hearMinute_32 rfl ?_
    refine jr_dup dX2_hearMinute_33 rfl ?_
    refine gfX2_27 dX2_hearMinute_34 (hA.n hw) ?_
    rw [wI_sR_s]
    refine jr_iload_n dX2_hearMinute_37 rfl ?_
    refine jr_iadd dX2_hearMinute_38 ?_
    refine pfX2_27 dX2_hearMinute_39 (hA.n hw) ?_
    rw [sR_sR, wI_sR_s]
    refine jr_aload_n dX2_hearMinute_42 rfl ?_
    refine jr_dup dX2_hearMinute_43 rfl ?_
    refine gfX2_30 dX2_hearMinute_44 (hA.n hw) ?_
    rw [wI_sR_s, pk_un (by decide)]
    refine jr_iload_n dX2_hearMinute_47 rfl ?_
    refine jr_iload_n dX2_hearMinute_48 rfl ?_
    refine jr_isub dX2_hearMinute_49 ?_
    refine jr_iadd dX2_hearMinute_50 ?_
    refine pfX2_30 dX2_hearMinute_51 (hA.n hw) ?_
    rw [sR_sR, wI_sR_s]
    refine jr_aload_n dX2_hearMinute_54 rfl ?_
    refine jc_Vi (c_draw g _ (hw.sR _ _) a hA) lkX2_138 (hA.n hw) rfl rfl (Nat.le_of_ble_eq_true rfl) (Nat.le_of_ble_eq_true rfl) dX2_hearMinute_55 (fun r_55 w_55 h_55 => ?_)
    obtain ⟨rfl, rfl⟩ := h_55
    rw [sR_sR, wI_sR_s, pk_un (by decide), pk_un (by decide), f8, ← eF']
    refine jr_bipush (100) dX2_hearMinute_58 (by decide) ?_
    refine jr_irem dX2_hearMinute_60 (by decide) ?_
    refine jr_aload_n dX2_hearMinute_61 rfl ?_
    refine gfX2_24 dX2_hearMinute_62 (hA.n hw) ?_
    rw [wI_sR_s, f3]
    refine jr_icmp_ge 81 dX2_hearMinute_65 (by decide) (fun c_65 => ?_) (fun c_65 => ?_)
    · first
      | (have c9 : s 7 ≤ rm100 (drawV (zN (s 9) n)) := c_65
         exact K81 F' 0 _ f1 f2 f3 f4 f5 (by rw [f6]; exact (Int32.add_zero _).symm) f7 f8' f10 f12 (by rw [mkF, if_pos c9]))
      | (have c9 : ¬ s 7 ≤ rm100 (drawV (zN (s 9) n)) := c_65
         exact K81 (upd F' 6 (s 5 + 1)) 1 _ (by rw [pk_un (by decide)]; exact f1) (by rw [pk_un (by decide)]; exact f2) (by rw [pk_un (by decide)]; exact f3) (by rw [pk_un (by decide)]; exact f4) (by rw [pk_un (by decide)]; exact f5) (by rw [pk_us]; rfl) (by rw [pk_un (by decide)]; exact f7) (by rw [pk_un (by decide)]; exact f8') (by rw [pk_un (by decide)]; exact f10) (by rw [pk_un (by decide)]; exact f12) (by rw [mkF, if_neg c9]))
    · refine jr_aload_n dX2_hearMinute_68 rfl ?_
      refine jr_dup dX2_hearMinute_69 rfl ?_
      refine gfX2_33 dX2_hearMinute_70 (hA.n hw) ?_
      rw [wI_sR_s, f6]
      refine jr_iconst (1) dX2_hearMinute_73 (by decide) ?_
      refine jr_iadd dX2_hearMinute_74 ?_
      refine pfX2_33 dX2_hearMinute_75 (hA.n hw) ?_
      rw [sR_sR, wI_sR_s]
      refine jr_iinc_2 (nI (tkF (s 6) (s 9) n + 1)) dX2_hearMinute_78 (inc1 _) (by decide) rfl ?_
      first
      | (have c9 : s 7 ≤ rm100 (drawV (zN (s 9) n)) := c_65
         exact K81 F' 0 _ f1 f2 f3 f4 f5 (by rw [f6]; exact (Int32.add_zero _).symm) f7 f8' f10 f12 (by rw [mkF, if_pos c9]))
      | (have c9 : ¬ s 7 ≤ rm100 (drawV (zN (s 9) n)) := c_65
         exact K81 (upd F' 6 (s 5 + 1)) 1 _ (by rw [pk_un (by decide)]; exact f1) (by rw [pk_un (by decide)]; exact f2) (by rw [pk_un (by decide)]; exact f3) (by rw [pk_un (by decide)]; exact f4) (by rw [pk_un (by decide)]; exact f5) (by rw [pk_us]; rfl) (by rw [pk_un (by decide)]; exact f7) (by rw [pk_un (by decide)]; exact f8') (by rw [pk_un (by decide)]; exact f10) (by rw [pk_un (by decide)]; exact f12) (by rw [mkF, if_neg c9]))
  have L : ∀ (f i : Nat) (F : Nat → Int32), f + i = n → F 8 = zN (s 9) i → (∀ j, j ≠ 8 → F j = wI w a j) → RR g RX2 cX2_hearMinute 4 none "hearMinute" 2 0 0 0 0 4 [some (.ref (gb g + a)), some (.int (nI n)), some (.int (nI (tkF (s 6) (s 9) i))), some (.int (nI i))] [] (sR w a F) Q := by
    intro f
    induction f with
    | zero =>
      intro i F hi f8 fo
      have e : i = n := by omega
      subst e
      refine jr_iload_n dX2_hearMinute_4 rfl ?_
      refine jr_iload_n dX2_hearMinute_5 rfl ?_
      refine jr_icmp_ge 32 dX2_hearMinute_6 (by decide) (fun c_6 => ?_) (fun c_6 => absurd (Int32.le_refl _) c_6)
      exact K32 F _ f8 fo
    | succ f ih =>
      intro i F hi f8 fo
      have h9 := ih (i + 1) (upd F 8 (drawZ (zN (s 9) i))) (by omega) pk_us (fun j hj => by rw [pk_un hj]; exact fo j hj)
      have htk1 := tk_le (s 6) (s 9) i
      simp only [tkF] at h9
      refine jr_iload_n dX2_hearMinute_4 rfl ?_
      refine jr_iload_n dX2_hearMinute_5 rfl ?_
      refine jr_icmp_ge 32 dX2_hearMinute_6 (by decide) (fun c_6 => absurd c_6 (nI_ge (by omega) (by omega))) (fun c_6 => ?_)
      refine jr_aload_n dX2_hearMinute_9 rfl ?_
      refine jc_Vi (c_draw g _ (hw.sR _ _) a hA) lkX2_138 (hA.n hw) rfl rfl (Nat.le_of_ble_eq_true rfl) (Nat.le_of_ble_eq_true rfl) dX2_hearMinute_10 (fun r_10 w_10 h_10 => ?_)
      obtain ⟨rfl, rfl⟩ := h_10
      rw [sR_sR, wI_sR_s, f8]
      refine jr_bipush (100) dX2_hearMinute_13 (by decide) ?_
      refine jr_irem dX2_hearMinute_15 (by decide) ?_
      refine jr_aload_n dX2_hearMinute_16 rfl ?_
      refine gfX2_21 dX2_hearMinute_17 (hA.n hw) ?_
      rw [wI_sR_s, pk_un (by decide), fo _ (by decide), n2]
      refine jr_icmp_ge 26 dX2_hearMinute_20 (by decide) (fun c_20 => ?_) (fun c_20 => ?_)
      · refine jr_iinc_3 (nI (i + 1)) dX2_hearMinute_26 (inc1 i) (by decide) rfl ?_
        refine jr_goto 4 dX2_hearMinute_29 (by decide) ?_
        first
        | (have c9 : s 6 ≤ rm100 (drawV (zN (s 9) i)) := c_20
           rw [if_pos c9] at h9; exact h9)
        | (have c9 : ¬ s 6 ≤ rm100 (drawV (zN (s 9) i)) := c_20
           rw [if_neg c9] at h9; exact h9)
      · refine jr_iinc_2 (nI (tkF (s 6) (s 9) i + 1)) dX2_hearMinute_23 (inc1 _) (by decide) rfl ?_
        refine jr_iinc_3 (nI (i + 1)) dX2_hearMinute_26 (inc1 i) (by decide) rfl ?_
        refine jr_goto 4 dX2_hearMinute_29 (by decide) ?_
        first
        | (have c9 : s 6 ≤ rm100 (drawV (zN (s 9) i)) := c_20
           rw [if_pos c9] at h9; exact h9)
        | (have c9 : ¬ s 6 ≤ rm100 (drawV (zN (s 9) i)) := c_20
           rw [if_neg c9] at h9; exact h9)
  have h0 := L n 0 (wI w a) (by omega) n8 (fun _ _ => rfl)
  rw [sR_id] at h0
  refine jr_iconst (0) dX2_hearMinute_0 (by decide) ?_
  refine jr_istore_2 dX2_hearMinute_1 (by decide) rfl ?_
  refine jr_iconst (0) dX2_hearMinute_2 (by decide) ?_
  refine jr_istore_3 dX2_hearMinute_3 (by decide) rfl ?_
  exact h0
def scG (a : Nat) : Nat → Prop := fun i => scK i ∨ i = a ∨ i = a + 2
theorem c_pass (g : Cx) (w : Wd) (hw : Wf w) (a : Nat) (hA : NA a) (s : Nat → Int32) (hN : NR w a s) (n : Nat) (hn : n < 2 ^ 31) (hG : ∀ i, i < n → Gd (goM s i)) : CV g yX2_passMinutes cX2_passMinutes 3 6 0 0 [.ref (gb g + a), .int (nI n)] w (fun w' => NR w' a (goM s n) ∧ Sm (scG a) w w') := by
  refine CV.of (own := RX2) (nm := "passMinutes") (lv := [some (.ref (gb g + a)), some (.int (nI n)), none]) (by decide) rfl rfl (Nat.le_of_ble_eq_true rfl) rfl (fun Q hQ => ?_)
  have L : ∀ (f i : Nat) (w1 : Wd), f + i = n → NR w1 a (goM s i) → Sm (scG a) w w1 → RR g RX2 cX2_passMinutes 3 none "passMinutes" 6 0 0 0 0 2 [some (.ref (gb g + a)), some (.int (nI n)), some (.int (nI i))] [] w1 Q := by
    intro f
    induction f with
    | zero =>
      intro i w1 hi hN1 hS
      have e : i = n := by omega
      subst e
      refine jr_iload_n dX2_passMinutes_2 rfl ?_
      refine jr_iload_n dX2_passMinutes_3 rfl ?_
      refine jr_icmp_ge 25 dX2_passMinutes_4 (by decide) (fun c_4 => ?_) (fun c_4 => absurd (Int32.le_refl _) c_4)
      refine jr_vret rfl dX2_passMinutes_25 ?_
      exact hQ _ ⟨hN1, hS⟩
    | succ f ih =>
      intro i w1 hi hN1 hS
      have hw1 := hS.wf hw
      have hG1 := hG i (by omega)
      have ht96 : totF (goM s i) (sN (goM s i) 2 % 720) (sN (goM s i) 0) ≤ 96 := by
        have h1 := tot_le (goM s i) (sN (goM s i) 2 % 720) (sN (goM s i) 0)
        have h2 := hG1.1.2
        omega
      refine jr_iload_n dX2_passMinutes_2 rfl ?_
      refine jr_iload_n dX2_passMinutes_3 rfl ?_
      refine jr_icmp_ge 25 dX2_passMinutes_4 (by decide) (fun c_4 => absurd c_4 (nI_ge (by omega) (by omega))) (fun c_4 => ?_)
      refine jr_aload_n dX2_passMinutes_7 rfl ?_
      refine jr_aload_n dX2_passMinutes_8 rfl ?_
      refine jr_aload_n dX2_passMinutes_9 rfl ?_
      refine jc_Vi (c_timeNow g _ hw1 a hA _ hN1 hG1.2.2.1) lkX2_126 (hA.n hw1) rfl rfl (Nat.le_of_ble_eq_true rfl) (Nat.le_of_ble_eq_true rfl) dX2_passMinutes_10 (fun r_10 w_10 h_10 => ?_)
      obtain ⟨rfl, rfl⟩ := h_10
      refine jc_Vi (c_totalAt g _ hw1 a hA _ hG1 hN1 _ (Nat.mod_lt _ (by decide))) lkX2_130 (hA.n hw1) rfl rfl (Nat.le_of_ble_eq_true rfl) (Nat.le_of_ble_eq_true rfl) dX2_passMinutes_13 (fun r_13 w_13 h_13 => ?_)
      obtain ⟨rfl, hS1⟩ := h_13
      refine jc_Vv (c_hear g _ (hS1.wf hw1) a hA _ hG1 (hN1.k hA hS1) _ ht96) lkX2_134 (hA.n (hS1.wf hw1)) rfl rfl (Nat.le_of_ble_eq_true rfl) (Nat.le_of_ble_eq_true rfl) dX2_passMinutes_16 (fun w_16 h_16 => ?_)
      obtain ⟨hN2, hS2⟩ := h_16
      refine jr_iinc_2 (nI (i + 1)) dX2_passMinutes_19 (inc1 i) (by decide) rfl ?_
      refine jr_goto 2 dX2_passMinutes_22 (by decide) ?_
      exact ih (i + 1) _ (by omega) hN2 ((hS.tr (hS1.mono (fun i h => Or.inl h))).tr (hS2.mono (fun i h => Or.inr h)))
  refine jr_iconst (0) dX2_passMinutes_0 (by decide) ?_
  refine jr_istore_2 dX2_passMinutes_1 (by decide) rfl ?_
  exact L _ 0 w rfl hN Sm.rf
def scA1 (a n : Nat) : Nat → Prop := fun i => i = a ∨ i = a + 5 + n
theorem c_addClock (g : Cx) (w : Wd) (hw : Wf w) (a : Nat) (hA : NA a) (s : Nat → Int32) (hX : ∀ t, t < sN s 1 → TxOk s t) (hN : NR w a s) (n : Nat) (hn : n < 6) (h0 : s 0 = nI n) (kd o tn : Int32) : CV g yX2_addClock cX2_addClock 5 1 0 0 [.ref (gb g + a), .int kd, .int o, .int tn] w (fun w' => NR w' a (comesF s n kd o tn) ∧ Sm (scA1 a n) w w') := by
  obtain ⟨n1, n2, n3, n4, n5, n6, n7, n8, n10, n12⟩ := hN.1
  have hl := hA.le
  have ne : a ≠ a + 5 + n := by omega
  refine CV.of (own := RX2) (nm := "addClock") (lv := [some (.ref (gb g + a)), some (.int kd), some (.int o), some (.int tn), none]) (by decide) rfl rfl (Nat.le_of_ble_eq_true rfl) rfl (fun Q hQ => ?_)
  have sX : SameX s (comesF s n kd o tn) := by
    refine ⟨?_, fun t _ j h1 h2 => ?_⟩
    · rw [comesF, pk_un (by omega), pk_un (by omega), pk_un (by omega), pk_un (by omega)]
    · rw [comesF, pk_un (by omega), pk_un (by omega), pk_un (by omega), pk_un (by omega)]
  have co : ∀ j, j ≠ 0 → j < 10 ∨ 28 ≤ j → comesF s n kd o tn j = s j := fun j h1 h2 => by
    rw [comesF, pk_un (by omega), pk_un (by omega), pk_un (by omega), pk_un h1]
  refine jr_aload_n dX2_addClock_0 rfl ?_
  refine gfX2_17 dX2_addClock_1 (hA.n hw) ?_
  refine jr_bipush (6) dX2_addClock_4 (by decide) ?_
  refine jr_icmp_lt 10 dX2_addClock_6 (by decide) (fun c_6 => ?_) (fun c_6 => absurd (by rw [n1, h0, jlit 6]; exact nI_lt hn (by decide)) c_6)
  refine jr_aload_n dX2_addClock_10 rfl ?_
  refine gfX2_11 (a + 1) dX2_addClock_11 (hA.n hw) (hA.rc hw) ?_
  refine jr_aload_n dX2_addClock_14 rfl ?_
  refine gfX2_17 dX2_addClock_15 (hA.n hw) ?_
  rw [n1, h0]
  refine jr_aald n (hA.c hw) (by decide) rfl ⟨hn, by decide⟩ (by rw [hA.rk hw hn, jrf_s]) dX2_addClock_18 ?_
  refine jr_astore_4 dX2_addClock_19 (by decide) rfl ?_
  refine jr_aload dX2_addClock_21 rfl ?_
  refine jr_iload_n dX2_addClock_23 rfl ?_
  refine pfX2_77 dX2_addClock_24 (hA.k hw hn) ?_
  refine jr_aload dX2_addClock_27 rfl ?_
  refine jr_iload_n dX2_addClock_29 rfl ?_
  refine pfX2_80 dX2_addClock_30 (hA.k hw hn) ?_
  rw [sR_sR, wI_sR_s]
  refine jr_aload dX2_addClock_33 rfl ?_
  refine jr_iload_n dX2_addClock_35 rfl ?_
  refine pfX2_83 dX2_addClock_36 (hA.k hw hn) ?_
  rw [sR_sR, wI_sR_s]
  refine jr_aload_n dX2_addClock_39 rfl ?_
  refine jr_dup dX2_addClock_40 rfl ?_
  refine gfX2_17 dX2_addClock_41 (hA.n hw) ?_
  rw [wI_sR_n _ ne, n1, h0]
  refine jr_iconst (1) dX2_addClock_44 (by decide) ?_
  refine jr_iadd dX2_addClock_45 ?_
  rw [jlit 1, nI_add]
  refine pfX2_17 dX2_addClock_46 (hA.n hw) ?_
  rw [wI_sR_n _ ne]
  refine jr_vret rfl dX2_addClock_49 ?_
  have hS9 : Sm (scA1 a n) w (sR (sR w (a + 5 + n) (upd (upd (upd (wI w (a + 5 + n)) 0 kd) 1 o) 2 tn)) a (upd (wI w a) 1 (nI (n + 1)))) := (Sm.sR (Or.inr rfl)).tr (Sm.sR (Or.inl rfl))
  refine hQ _ ⟨⟨?_, ?_, ?_, ?_, ?_⟩, hS9⟩
  · rw [wI_sR_s]
    refine ⟨?_, ?_, ?_, ?_, ?_, ?_, ?_, ?_, ?_, ?_⟩
    · rw [pk_us, comesF, pk_un (by omega), pk_un (by omega), pk_un (by omega), pk_us]
    · rw [pk_un (by decide), co _ (by decide) (by omega)]; exact n2
    · rw [pk_un (by decide), co _ (by decide) (by omega)]; exact n3
    · rw [pk_un (by decide), co _ (by decide) (by omega)]; exact n4
    · rw [pk_un (by decide), co _ (by decide) (by omega)]; exact n5
    · rw [pk_un (by decide), co _ (by decide) (by omega)]; exact n6
    · rw [pk_un (by decide), co _ (by decide) (by omega)]; exact n7
    · rw [pk_un (by decide), co _ (by decide) (by omega)]; exact n8
    · rw [pk_un (by decide), co _ (by decide) (by omega)]; exact n10
    · rw [pk_un (by decide), co _ (by decide) (by omega)]; exact n12
  · rw [hS9.row (i := a + 2) (fun e => by unfold scA1 at e; omega)]
    intro j hj
    rw [co _ (by omega) (by omega)]
    exact hN.2.1 j hj
  · intro k hk
    by_cases e : k = n
    · subst e
      rw [wI_sR_n _ (Ne.symm ne), wI_sR_s]
      refine ⟨?_, ?_, ?_⟩
      · rw [pk_un (by decide), pk_un (by decide), pk_us, comesF, pk_un (by omega), pk_un (by omega), pk_us]
      · rw [pk_un (by decide), pk_us, comesF, pk_un (by omega), pk_us]
      · rw [pk_us, comesF, pk_us]
    · rw [hS9.row (i := a + 5 + k) (fun e => by unfold scA1 at e; omega)]
      obtain ⟨c1, c2, c3⟩ := hN.2.2.1 k hk
      refine ⟨?_, ?_, ?_⟩
      · rw [c1, comesF, pk_un (by omega), pk_un (by omega), pk_un (by omega), pk_un (by omega)]
      · rw [c2, comesF, pk_un (by omega), pk_un (by omega), pk_un (by omega), pk_un (by omega)]
      · rw [c3, comesF, pk_un (by omega), pk_un (by omega), pk_un (by omega), pk_un (by omega)]
  · rw [hS9.row (i := a + 4) (fun e => by unfold scA1 at e; omega)]
    intro q hq
    rw [lwF_same sX]
    exact hN.2.2.2.1 q hq
  · rw [hS9.F]
    intro t ht
    obtain ⟨b, hb1, hb2⟩ := (hN.2.2.2.2.same sX hX) t ht
    exact ⟨b, hb1, hb2.sm hS9 (fun i k1 k2 e => by unfold scA1 at e; omega)⟩
