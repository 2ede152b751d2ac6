-- the class: what will be, images, rows that wait, the tape
def scT2 : Nat → Prop := fun i => scK i ∨ (23 ≤ i ∧ i ≤ 42)
def p26 : Nat → Prop := fun i => i = 26
/-- scratch and the night thought have changed -/
abbrev Sth (w w' : Wd) : Prop := Sq scT2 p26 w w'
theorem Sth.wf {w w' : Wd} (h : Sth w w') (hw : Wf w) : Wf w' := Sq.wf h hw (fun i e k => by unfold p26 at e; subst e; exact RF_txt NA3 k)
theorem Sth.nr {w w' : Wd} (h : Sth w w') {a : Nat} (hA : NA a) (ha : a ≠ 23) {s : Nat → Int32} (hN : NR w a s) : NR w' a s := by
  have hl : a = 1 ∨ a = 12 := by rcases hA with e | e | e <;> omega
  exact hN.sq h (fun i hi e => by unfold scT2 scK at e; omega) (fun i hi e => by unfold p26 at e; omega)
theorem Sth.y {w w' : Wd} (h : Sm scY w w') : Sth w w' := (Sm.sq h).mono (fun i e => by unfold scY scK at e; unfold scT2 scK; omega) (fun i e => e)
theorem Sth.g {w w' : Wd} (h : Sm (scG 23) w w') : Sth w w' := (Sm.sq h).mono (fun i e => by unfold scG scK at e; unfold scT2 scK; omega) (fun i e => e)
theorem Sth.c {w w' : Wd} {b : Nat} (h : CopyF w w' 23 b) : Sth w w' := h.2.2.2.2.2.mono (fun i e => by unfold scT2 scK; omega) (fun i e => e)
theorem goM_totT {s : Nat → Int32} (hG : Gd s) (n : Nat) : totT (goM s n) = totT s := by
  funext t
  exact goM_tot hG n t
theorem p_behind (g : Cx) (w : Wd) (hw : Wf w) (s : Nat → Int32) (hG : Gd s) (h99 : sN s 2 ≤ 9999) (hN : NR w 1 s) (hTx : TxW w 1) (n x : Int32) : CI g yX8_behind cX8_behind 3 (some .int) 7 0 0 [.ref (gb g + 0), .int n, .int x] w (fun r w' => r = F_behind s n x ∧ Sth w w') := by
  have h14 : sN s 1 ≤ 14 := hG.2.1.2
  refine CI.of (own := RX8) (nm := "behind") (lv := [some (.ref (gb g + 0)), some (.int n), some (.int x)]) (by decide) rfl rfl (Nat.le_of_ble_eq_true rfl) rfl (fun Q hQ => ?_)
  by_cases hc : inR n 0 100 ∧ inR x 0 3
  · have hnr : 0 ≤ n.toInt ∧ n.toInt ≤ 100 := hc.1
    have hxr : 0 ≤ x.toInt ∧ x.toInt < 4 := by have := hc.2; unfold inR at this; omega
    obtain ⟨m, hm, em⟩ := i_of (n := 101) (x := n) (by omega) (by omega)
    subst em
    have emc : (nI m).toNatClampNeg = m := nI_clamp (by omega)
    have hGM := fun i (hi : i ≤ m) => (Gd_goM hG i (by omega)).1
    have eT := goM_totT hG m
    have K83 : ∀ w1, Sth w w1 → wI w1 34 3 = nI (cntB (fitP (goM s m) (totT s)) 720) → ¬ x.toInt < 3 → RR g RX8 cX8_behind 3 (some .int) "behind" 7 0 0 0 0 83 [some (.ref (gb g + 0)), some (.int (nI m)), some (.int x)] [] w1 Q := by
      intro w1 hS h3 hx
      have hw1 := hS.wf hw
      refine jr_aload_n dX8_behind_83 rfl ?_
      refine gfX8_29 34 dX8_behind_84 (hw1.k rfl) (hw1.f rfl) ?_
      refine gfX8_185 dX8_behind_87 (hw1.k rfl) ?_
      refine jr_iret rfl dX8_behind_90 ?_
      exact hQ _ _ ⟨by rw [F_behind, if_pos hc, if_neg hx, emc]; exact h3, hS⟩
    have K76 : ∀ w1, Sth w w1 → AllR (wI w1 35) (totT s) → wI w1 34 2 = goM s m 8 → AlR (wI w1 36) (goM s m) → ¬ x.toInt < 3 → RR g RX8 cX8_behind 3 (some .int) "behind" 7 0 0 0 0 76 [some (.ref (gb g + 0)), some (.int (nI m)), some (.int x)] [] w1 Q := by
      intro w1 hS hT h2 hAl hx
      have hw1 := hS.wf hw
      refine jr_aload_n dX8_behind_76 rfl ?_
      refine gfX8_29 34 dX8_behind_77 (hw1.k rfl) (hw1.f rfl) ?_
      refine jc_Vv (c_findTimes g _ hw1 (goM s m) (hGM m (Nat.le_refl _)).2.2.2.2.2.1 (totT s) hT (tot_96 hG) h2 hAl) lkX8_182 (hw1.k rfl) rfl rfl (Nat.le_of_ble_eq_true rfl) (Nat.le_of_ble_eq_true rfl) dX8_behind_80 (fun w_80 h_80 => ?_)
      obtain ⟨hF, -, hS2⟩ := h_80
      exact K83 _ (hS.tr (Sth.y (y34 hS2))) hF.1 hx
    have K65 : ∀ w1, Sth w w1 → NR w1 23 (goM s m) → AllR (wI w1 35) (totT s) → ¬ x.toInt < 3 → RR g RX8 cX8_behind 3 (some .int) "behind" 7 0 0 0 0 65 [some (.ref (gb g + 0)), some (.int (nI m)), some (.int x)] [] w1 Q := by
      intro w1 hS hN1 hT hx
      have hw1 := hS.wf hw
      refine jr_aload_n dX8_behind_65 rfl ?_
      refine gfX8_29 34 dX8_behind_66 (hw1.k rfl) (hw1.f rfl) ?_
      refine jr_aload_n dX8_behind_69 rfl ?_
      refine gfX8_19 23 dX8_behind_70 (hw1.k rfl) (hw1.f rfl) ?_
      refine jc_Vv (c_useNotes g _ hw1 23 NA3 (goM s m) (hGM m (Nat.le_refl _)) hN1) lkX8_179 (hw1.k rfl) rfl rfl (Nat.le_of_ble_eq_true rfl) (Nat.le_of_ble_eq_true rfl) dX8_behind_73 (fun w_73 h_73 => ?_)
      obtain ⟨h2, hAl, hS2⟩ := h_73
      exact K76 _ (hS.tr (Sth.y (yu hS2))) (by rw [hS2.row (by unfold scU; omega)]; exact hT) h2 hAl hx
    have K40 : ∀ w1, Sth w w1 → NR w1 23 (goM s m) → RR g RX8 cX8_behind 3 (some .int) "behind" 7 0 0 0 0 40 [some (.ref (gb g + 0)), some (.int (nI m)), some (.int x)] [] w1 Q := by
      intro w1 hS hN1
      have hw1 := hS.wf hw
      by_cases h3 : x.toInt = 3
      · have ex : x = 3 := by rw [eq_i]; exact h3
        refine jr_iload_n dX8_behind_40 rfl ?_
        refine jr_iconst (3) dX8_behind_41 (by decide) ?_
        refine jr_icmp_eq 54 dX8_behind_42 (by decide) (fun c_42 => ?_) (fun c_42 => absurd ex c_42)
        refine jr_aload_n dX8_behind_54 rfl ?_
        refine gfX8_29 34 dX8_behind_55 (hw1.k rfl) (hw1.f rfl) ?_
        refine jr_aload_n dX8_behind_58 rfl ?_
        refine gfX8_19 23 dX8_behind_59 (hw1.k rfl) (hw1.f rfl) ?_
        refine jc_Vv (c_useClocks g _ hw1 23 NA3 (goM s m) (hGM m (Nat.le_refl _)) hN1) lkX8_175 (hw1.k rfl) rfl rfl (Nat.le_of_ble_eq_true rfl) (Nat.le_of_ble_eq_true rfl) dX8_behind_62 (fun w_62 h_62 => ?_)
        obtain ⟨hT, hS2⟩ := h_62
        rw [eT] at hT
        exact K65 _ (hS.tr (Sth.y (yq hS2))) (hN1.q NA3 hS2) hT (by omega)
      · refine jr_iload_n dX8_behind_40 rfl ?_
        refine jr_iconst (3) dX8_behind_41 (by decide) ?_
        refine jr_icmp_eq 54 dX8_behind_42 (by decide) (fun c_42 => absurd c_42 (fun e => h3 (by rw [e]; rfl))) (fun c_42 => ?_)
        refine jr_aload_n dX8_behind_45 rfl ?_
        refine gfX8_19 23 dX8_behind_46 (hw1.k rfl) (hw1.f rfl) ?_
        refine jr_iload_n dX8_behind_49 rfl ?_
        refine jc_Vi (c_bedCount g _ hw1 23 NA3 (goM s m) hN1 x) lkX8_162 (hw1.k rfl) rfl rfl (Nat.le_of_ble_eq_true rfl) (Nat.le_of_ble_eq_true rfl) dX8_behind_50 (fun r_50 w_50 h_50 => ?_)
        obtain ⟨rfl, rfl⟩ := h_50
        refine jr_iret rfl dX8_behind_53 ?_
        refine hQ _ _ ⟨?_, hS⟩
        have eF : F_behind s (nI m) x = goM s m (3 + x.toNatClampNeg) := by rw [F_behind, if_pos hc, if_pos (by omega), emc]
        rw [eF]
        by_cases c0 : x.toInt = 0
        · rw [if_pos c0, show x.toNatClampNeg = 0 by have : x.toNatClampNeg = x.toInt.toNat := rfl; omega]
        · rw [if_neg c0]
          by_cases c1 : x.toInt = 1
          · rw [if_pos c1, show x.toNatClampNeg = 1 by have : x.toNatClampNeg = x.toInt.toNat := rfl; omega]
          · rw [if_neg c1, if_pos (by omega), show x.toNatClampNeg = 2 by have : x.toNatClampNeg = x.toInt.toNat := rfl; omega]
    have K32 : ∀ w1, Sth w w1 → NR w1 23 s → RR g RX8 cX8_behind 3 (some .int) "behind" 7 0 0 0 0 32 [some (.ref (gb g + 0)), some (.int (nI m)), some (.int x)] [] w1 Q := by
      intro w1 hS hN1
      have hw1 := hS.wf hw
      refine jr_aload_n dX8_behind_32 rfl ?_
      refine gfX8_19 23 dX8_behind_33 (hw1.k rfl) (hw1.f rfl) ?_
      refine jr_iload_n dX8_behind_36 rfl ?_
      refine jc_Vv (c_pass g _ hw1 23 NA3 s hN1 m (by omega) (fun i hi => hGM i (by omega))) lkX8_155 (hw1.k rfl) rfl rfl (Nat.le_of_ble_eq_true rfl) (Nat.le_of_ble_eq_true rfl) dX8_behind_37 (fun w_37 h_37 => ?_)
      obtain ⟨hN2, hS2⟩ := h_37
      exact K40 _ (hS.tr (Sth.g hS2)) hN2
    refine jr_iload_n dX8_behind_0 rfl ?_
    refine jr_if_lt 18 dX8_behind_1 (by decide) (fun c_1 => absurd c_1 (nI_pos (by omega))) (fun c_1 => ?_)
    refine jr_iload_n dX8_behind_4 rfl ?_
    refine jr_bipush (100) dX8_behind_5 (by decide) ?_
    refine jr_icmp_gt 18 dX8_behind_7 (by decide) (fun c_7 => absurd c_7 (by rw [jlit 100]; exact nI_nlt (by omega) (by decide))) (fun c_7 => ?_)
    refine jr_iload_n dX8_behind_10 rfl ?_
    refine jr_iconst (4) dX8_behind_11 (by decide) ?_
    refine jc_Si (c_wi g _ _ _ 4 rfl) lkX8_76 rfl rfl (Nat.le_of_ble_eq_true rfl) (Nat.le_of_ble_eq_true rfl) dX8_behind_12 (fun r_12 w_12 h_12 => ?_)
    obtain ⟨rfl, rfl⟩ := h_12
    refine jr_if_ne 21 dX8_behind_15 (by decide) (fun c_15 => ?_) (fun c_15 => absurd c_15 (jb_1.mpr hxr))
    refine jr_aload_n dX8_behind_21 rfl ?_
    refine gfX8_19 23 dX8_behind_22 (hw.k rfl) (hw.f rfl) ?_
    refine jr_aload_n dX8_behind_25 rfl ?_
    refine gfX8_12 1 dX8_behind_26 (hw.k rfl) (hw.f rfl) ?_
    refine jc_Vv (c_take g _ hw 23 1 NA3 NA1 (by decide) hTx) lkX8_217 (hw.k rfl) rfl rfl (Nat.le_of_ble_eq_true rfl) (Nat.le_of_ble_eq_true rfl) dX8_behind_29 (fun w_29 h_29 => ?_)
    exact K32 _ (Sth.c h_29) (h_29.nr NA3 h14 hN)
  · refine jr_iload_n dX8_behind_0 rfl ?_
    refine jr_if_lt 18 dX8_behind_1 (by decide) (fun c_1 => ?_) (fun c_1 => ?_)
    · simp only [lt_i, le_i, eq_i, Int32.reduceToInt] at c_1
      refine jr_ldc (-1000000001) ckX8_80 dX8_behind_18 ?_
      refine jr_iret rfl dX8_behind_20 ?_
      exact hQ _ _ ⟨by rw [F_behind, if_neg hc], Sq.rf⟩
    · simp only [lt_i, le_i, eq_i, Int32.reduceToInt] at c_1
      refine jr_iload_n dX8_behind_4 rfl ?_
      refine jr_bipush (100) dX8_behind_5 (by decide) ?_
      refine jr_icmp_gt 18 dX8_behind_7 (by decide) (fun c_7 => ?_) (fun c_7 => ?_)
      · simp only [lt_i, le_i, eq_i, Int32.reduceToInt] at c_7
        refine jr_ldc (-1000000001) ckX8_80 dX8_behind_18 ?_
        refine jr_iret rfl dX8_behind_20 ?_
        exact hQ _ _ ⟨by rw [F_behind, if_neg hc], Sq.rf⟩
      · simp only [lt_i, le_i, eq_i, Int32.reduceToInt] at c_7
        refine jr_iload_n dX8_behind_10 rfl ?_
        refine jr_iconst (4) dX8_behind_11 (by decide) ?_
        refine jc_Si (c_wi g _ _ _ 4 rfl) lkX8_76 rfl rfl (Nat.le_of_ble_eq_true rfl) (Nat.le_of_ble_eq_true rfl) dX8_behind_12 (fun r_12 w_12 h_12 => ?_)
        obtain ⟨rfl, rfl⟩ := h_12
        refine jr_if_ne 21 dX8_behind_15 (by decide) (fun c_15 => ?_) (fun c_15 => ?_)
        · rw [jb_1] at c_15
          exfalso; exact hc ⟨by unfold inR; omega, by unfold inR; omega⟩
        · rw [jb_0] at c_15
          refine jr_ldc (-1000000001) ckX8_80 dX8_behind_18 ?_
          refine jr_iret rfl dX8_behind_20 ?_
          exact hQ _ _ ⟨by rw [F_behind, if_neg hc], Sq.rf⟩
theorem p_listen (g : Cx) (w : Wd) (hw : Wf w) (s : Nat → Int32) (hG : Gd s) (h99 : sN s 2 ≤ 9999) (hN : NR w 1 s) (hTx : TxW w 1) : CI g yX8_listen cX8_listen 2 (some .int) 7 0 0 [.ref (gb g + 0)] w (fun r w' => r = F_listen s ∧ Sth w w') := by
  have h14 : sN s 1 ≤ 14 := hG.2.1.2
  refine CI.of (own := RX8) (nm := "listen") (lv := [some (.ref (gb g + 0)), none]) (by decide) rfl rfl (Nat.le_of_ble_eq_true rfl) rfl (fun Q hQ => ?_)
  have L : ∀ (f n : Nat) (w1 : Wd), f + n = 61 → Sth w w1 → NR w1 23 (goM s n) → AllR (wI w1 35) (totT s) → (∀ q, q < n → lsP s q = false) → RR g RX8 cX8_listen 2 (some .int) "listen" 7 0 0 0 0 24 [some (.ref (gb g + 0)), some (.int (nI n))] [] w1 Q := by
    intro f
    induction f with
    | zero =>
      intro n w1 hf hS hN1 hT hq
      have e : n = 61 := by omega
      subst e
      refine jr_iload_n dX8_listen_24 rfl ?_
      refine jr_bipush (60) dX8_listen_25 (by decide) ?_
      refine jr_icmp_gt 74 dX8_listen_27 (by decide) (fun c_27 => ?_) (fun c_27 => absurd (by decide) c_27)
      refine jr_ldc (-1000000005) ckX8_168 dX8_listen_74 ?_
      refine jr_iret rfl dX8_listen_76 ?_
      exact hQ _ _ ⟨by rw [F_listen, fstB_none hq, if_neg (by omega)], hS⟩
    | succ f ih =>
      intro n w1 hf hS hN1 hT hq
      have hw1 := hS.wf hw
      have hGn := (Gd_goM hG n (by omega)).1
      have K48 : ∀ w2, Sth w w2 → NR w2 23 (goM s n) → AllR (wI w2 35) (totT s) → wI w2 34 4 = hrsB (fitP (goM s n) (totT s)) 720 → RR g RX8 cX8_listen 2 (some .int) "listen" 7 0 0 0 0 48 [some (.ref (gb g + 0)), some (.int (nI n))] [] w2 Q := by
        intro w2 hS2 hN2 hT2 h4
        have hw1 := hS2.wf hw
        by_cases hp : sureX (hrsB (fitP (goM s n) (totT s)) 720)
        · refine jr_aload_n dX8_listen_48 rfl ?_
          refine gfX8_29 34 dX8_listen_49 (hw1.k rfl) (hw1.f rfl) ?_
          refine jc_Vi (c_isSure g _ hw1 (fitP (goM s n) (totT s)) h4) lkX8_194 (hw1.k rfl) rfl rfl (Nat.le_of_ble_eq_true rfl) (Nat.le_of_ble_eq_true rfl) dX8_listen_52 (fun r_52 w_52 h_52 => ?_)
          obtain ⟨rfl, rfl⟩ := h_52
          refine jr_if_eq 60 dX8_listen_55 (by decide) (fun c_55 => absurd c_55 (jb_1.mpr hp)) (fun c_55 => ?_)
          refine jr_iload_n dX8_listen_58 rfl ?_
          refine jr_iret rfl dX8_listen_59 ?_
          exact hQ _ _ ⟨by rw [F_listen, fstB_at hq (decide_eq_true hp) (show n < 61 by omega), if_pos (by omega)], hS2⟩
        · refine jr_aload_n dX8_listen_48 rfl ?_
          refine gfX8_29 34 dX8_listen_49 (hw1.k rfl) (hw1.f rfl) ?_
          refine jc_Vi (c_isSure g _ hw1 (fitP (goM s n) (totT s)) h4) lkX8_194 (hw1.k rfl) rfl rfl (Nat.le_of_ble_eq_true rfl) (Nat.le_of_ble_eq_true rfl) dX8_listen_52 (fun r_52 w_52 h_52 => ?_)
          obtain ⟨rfl, rfl⟩ := h_52
          refine jr_if_eq 60 dX8_listen_55 (by decide) (fun c_55 => ?_) (fun c_55 => absurd (jb_f hp) c_55)
          refine jr_aload_n dX8_listen_60 rfl ?_
          refine gfX8_19 23 dX8_listen_61 (hw1.k rfl) (hw1.f rfl) ?_
          refine jr_iconst (1) dX8_listen_64 (by decide) ?_
          refine jc_Vv (c_pass g _ hw1 23 NA3 (goM s n) hN2 1 (by decide) (fun i hi => by rw [show i = 0 by omega]; exact hGn)) lkX8_155 (hw1.k rfl) rfl rfl (Nat.le_of_ble_eq_true rfl) (Nat.le_of_ble_eq_true rfl) dX8_listen_65 (fun w_65 h_65 => ?_)
          obtain ⟨hN3, hS3⟩ := h_65
          refine jr_iinc_1 (nI (n + 1)) dX8_listen_68 (inc1 n) (by decide) rfl ?_
          refine jr_goto 24 dX8_listen_71 (by decide) ?_
          refine ih (n + 1) _ (by omega) (hS2.tr (Sth.g hS3)) hN3 (by rw [hS3.row (fun e => by unfold scG scK at e; omega)]; exact hT2) (fun q hq2 => ?_)
          by_cases e : q = n
          · rw [e]; exact decide_eq_false hp
          · exact hq q (by omega)
      have K41 : ∀ w2, Sth w w2 → NR w2 23 (goM s n) → AllR (wI w2 35) (totT s) → wI w2 34 2 = goM s n 8 → AlR (wI w2 36) (goM s n) → RR g RX8 cX8_listen 2 (some .int) "listen" 7 0 0 0 0 41 [some (.ref (gb g + 0)), some (.int (nI n))] [] w2 Q := by
        intro w2 hS2 hN2 hT2 h2 hAl
        have hw1 := hS2.wf hw
        refine jr_aload_n dX8_listen_41 rfl ?_
        refine gfX8_29 34 dX8_listen_42 (hw1.k rfl) (hw1.f rfl) ?_
        refine jc_Vv (c_findTimes g _ hw1 (goM s n) hGn.2.2.2.2.2.1 (totT s) hT2 (tot_96 hG) h2 hAl) lkX8_182 (hw1.k rfl) rfl rfl (Nat.le_of_ble_eq_true rfl) (Nat.le_of_ble_eq_true rfl) dX8_listen_45 (fun w_45 h_45 => ?_)
        obtain ⟨hF, -, hS3⟩ := h_45
        exact K48 _ (hS2.tr (Sth.y (y34 hS3))) (hN2.y NA3 (y34 hS3)) (by rw [hS3.row (by decide)]; exact hT2) hF.2.1
      refine jr_iload_n dX8_listen_24 rfl ?_
      refine jr_bipush (60) dX8_listen_25 (by decide) ?_
      refine jr_icmp_gt 74 dX8_listen_27 (by decide) (fun c_27 => absurd c_27 (by rw [jlit 60]; exact nI_nlt (by omega) (by decide))) (fun c_27 => ?_)
      refine jr_aload_n dX8_listen_30 rfl ?_
      refine gfX8_29 34 dX8_listen_31 (hw1.k rfl) (hw1.f rfl) ?_
      refine jr_aload_n dX8_listen_34 rfl ?_
      refine gfX8_19 23 dX8_listen_35 (hw1.k rfl) (hw1.f rfl) ?_
      refine jc_Vv (c_useNotes g _ hw1 23 NA3 (goM s n) hGn hN1) lkX8_179 (hw1.k rfl) rfl rfl (Nat.le_of_ble_eq_true rfl) (Nat.le_of_ble_eq_true rfl) dX8_listen_38 (fun w_38 h_38 => ?_)
      obtain ⟨h2, hAl, hS2⟩ := h_38
      exact K41 _ (hS.tr (Sth.y (yu hS2))) (hN1.u NA3 hS2) (by rw [hS2.row (by unfold scU; omega)]; exact hT) h2 hAl
  have K11 : ∀ w1, Sth w w1 → NR w1 23 s → RR g RX8 cX8_listen 2 (some .int) "listen" 7 0 0 0 0 11 [some (.ref (gb g + 0)), none] [] w1 Q := by
    intro w1 hS hN1
    have hw1 := hS.wf hw
    refine jr_aload_n dX8_listen_11 rfl ?_
    refine gfX8_29 34 dX8_listen_12 (hw1.k rfl) (hw1.f rfl) ?_
    refine jr_aload_n dX8_listen_15 rfl ?_
    refine gfX8_19 23 dX8_listen_16 (hw1.k rfl) (hw1.f rfl) ?_
    refine jc_Vv (c_useClocks g _ hw1 23 NA3 s hG hN1) lkX8_175 (hw1.k rfl) rfl rfl (Nat.le_of_ble_eq_true rfl) (Nat.le_of_ble_eq_true rfl) dX8_listen_19 (fun w_19 h_19 => ?_)
    obtain ⟨hT, hS2⟩ := h_19
    refine jr_iconst (0) dX8_listen_22 (by decide) ?_
    refine jr_istore_1 dX8_listen_23 (by decide) rfl ?_
    exact L 61 0 _ rfl (hS.tr (Sth.y (yq hS2))) (hN1.q NA3 hS2) hT (fun q hq => absurd hq (by omega))
  refine jr_aload_n dX8_listen_0 rfl ?_
  refine gfX8_19 23 dX8_listen_1 (hw.k rfl) (hw.f rfl) ?_
  refine jr_aload_n dX8_listen_4 rfl ?_
  refine gfX8_12 1 dX8_listen_5 (hw.k rfl) (hw.f rfl) ?_
  refine jc_Vv (c_take g _ hw 23 1 NA3 NA1 (by decide) hTx) lkX8_217 (hw.k rfl) rfl rfl (Nat.le_of_ble_eq_true rfl) (Nat.le_of_ble_eq_true rfl) dX8_listen_8 (fun w_8 h_8 => ?_)
  exact K11 _ (Sth.c h_8) (h_8.nr NA3 h14 hN)
theorem p_keep (g : Cx) (w : Wd) (hw : Wf w) (s : Nat → Int32) (hN : NR w 1 s) (hTx : TxW w 1) : CI g yX8_keep cX8_keep 1 (some .int) 3 0 0 [.ref (gb g + 0)] w (fun r w' => r = s 0 ∧ ∃ w1, CopyF w w1 12 1 ∧ w' = sR w1 0 (upd (wI w 0) 3 1)) := by
  refine CI.of (own := RX8) (nm := "keep") (lv := [some (.ref (gb g + 0))]) (by decide) rfl rfl (Nat.le_of_ble_eq_true rfl) rfl (fun Q hQ => ?_)
  have K : ∀ w1, CopyF w w1 12 1 → RR g RX8 cX8_keep 1 (some .int) "keep" 3 0 0 0 0 11 [some (.ref (gb g + 0))] [] w1 Q := by
    intro w1 hC
    have hw1 := hC.wf NA2 hw
    have r0 : wI w1 0 = wI w 0 := hC.2.2.2.2.2.2.2.1 0 (by omega)
    have r1 : wI w1 1 = wI w 1 := hC.2.2.2.2.2.2.2.1 1 (by omega)
    refine jr_aload_n dX8_keep_11 rfl ?_
    refine jr_iconst (1) dX8_keep_12 (by decide) ?_
    refine pfX8_22 (by decide) (by decide) dX8_keep_13 (hw1.k rfl) ?_
    rw [r0]
    refine jr_aload_n dX8_keep_16 rfl ?_
    refine gfX8_12 1 dX8_keep_17 (hw1.k rfl) (hw1.f rfl) ?_
    refine gfX8_81 dX8_keep_20 (hw1.k rfl) ?_
    rw [wI_sR_n _ (by decide), r1, hN.1.1]
    refine jr_iret rfl dX8_keep_23 ?_
    exact hQ _ _ ⟨rfl, w1, hC, rfl⟩
  refine jr_aload_n dX8_keep_0 rfl ?_
  refine gfX8_16 12 dX8_keep_1 (hw.k rfl) (hw.f rfl) ?_
  refine jr_aload_n dX8_keep_4 rfl ?_
  refine gfX8_12 1 dX8_keep_5 (hw.k rfl) (hw.f rfl) ?_
  refine jc_Vv (c_take g _ hw 12 1 NA2 NA1 (by decide) hTx) lkX8_217 (hw.k rfl) rfl rfl (Nat.le_of_ble_eq_true rfl) (Nat.le_of_ble_eq_true rfl) dX8_keep_8 (fun w_8 h_8 => ?_)
  exact K _ h_8
theorem p_back (g : Cx) (w : Wd) (hw : Wf w) (hTx : TxW w 12) : CI g yX8_back cX8_back 1 (some .int) 3 0 0 [.ref (gb g + 0)] w (fun r w' => (wI w 0 3 = 0 ∧ r = -1000000002 ∧ w = w') ∨ (¬ wI w 0 3 = 0 ∧ r = wI w 12 1 ∧ CopyF w w' 1 12)) := by
  refine CI.of (own := RX8) (nm := "back") (lv := [some (.ref (gb g + 0))]) (by decide) rfl rfl (Nat.le_of_ble_eq_true rfl) rfl (fun Q hQ => ?_)
  have K : ¬ wI w 0 3 = 0 → ∀ w1, CopyF w w1 1 12 → RR g RX8 cX8_back 1 (some .int) "back" 3 0 0 0 0 22 [some (.ref (gb g + 0))] [] w1 Q := by
    intro h w1 hC
    have hw1 := hC.wf NA1 hw
    refine jr_aload_n dX8_back_22 rfl ?_
    refine gfX8_12 1 dX8_back_23 (hw1.k rfl) (hw1.f rfl) ?_
    refine gfX8_81 dX8_back_26 (hw1.k rfl) ?_
    refine jr_iret rfl dX8_back_29 ?_
    exact hQ _ _ (Or.inr ⟨h, hC.1 1 (by omega), hC⟩)
  refine jr_aload_n dX8_back_0 rfl ?_
  refine gfX8_22 dX8_back_1 (hw.k rfl) ?_
  refine jr_if_ne 11 dX8_back_4 (by decide) (fun c_4 => ?_) (fun c_4 => ?_)
  · refine jr_aload_n dX8_back_11 rfl ?_
    refine gfX8_12 1 dX8_back_12 (hw.k rfl) (hw.f rfl) ?_
    refine jr_aload_n dX8_back_15 rfl ?_
    refine gfX8_16 12 dX8_back_16 (hw.k rfl) (hw.f rfl) ?_
    refine jc_Vv (c_take g _ hw 1 12 NA1 NA2 (by decide) hTx) lkX8_217 (hw.k rfl) rfl rfl (Nat.le_of_ble_eq_true rfl) (Nat.le_of_ble_eq_true rfl) dX8_back_19 (fun w_19 h_19 => ?_)
    exact K c_4 _ h_19
  · refine jr_ldcw (-1000000002) ckX8_315 dX8_back_7 ?_
    refine jr_iret rfl dX8_back_10 ?_
    exact hQ _ _ (Or.inl ⟨c_4, rfl, rfl⟩)
theorem p_tell (g : Cx) (w : Wd) (hw : Wf w) (n : Nat) (hn : n ≤ 60) (h0 : wI w 0 10 = nI n) (v : Int32) : CI g yX8_tell cX8_tell 2 (some .int) 1 0 0 [.ref (gb g + 0), .int v] w (fun r w' => (n = 60 ∧ r = -1000000003 ∧ w = w') ∨ (n < 60 ∧ r = nI (n + 1) ∧ w' = sR (sR w 47 (upd (wI w 47) n v)) 0 (upd (wI w 0) 10 (nI (n + 1))))) := by
  refine CI.of (own := RX8) (nm := "tell") (lv := [some (.ref (gb g + 0)), some (.int v)]) (by decide) rfl rfl (Nat.le_of_ble_eq_true rfl) rfl (fun Q hQ => ?_)
  by_cases h60 : n = 60
  · refine jr_aload_n dX8_tell_0 rfl ?_
    refine gfX8_59 dX8_tell_1 (hw.k rfl) ?_
    rw [h0]
    refine jr_bipush (60) dX8_tell_4 (by decide) ?_
    refine jr_icmp_lt 12 dX8_tell_6 (by decide) (fun c_6 => absurd c_6 (by rw [h60]; decide)) (fun c_6 => ?_)
    refine jr_ldc (-1000000003) ckX8_84 dX8_tell_9 ?_
    refine jr_iret rfl dX8_tell_11 ?_
    exact hQ _ _ (Or.inl ⟨h60, rfl, rfl⟩)
  · refine jr_aload_n dX8_tell_0 rfl ?_
    refine gfX8_59 dX8_tell_1 (hw.k rfl) ?_
    rw [h0]
    refine jr_bipush (60) dX8_tell_4 (by decide) ?_
    refine jr_icmp_lt 12 dX8_tell_6 (by decide) (fun c_6 => ?_) (fun c_6 => absurd (by rw [jlit 60]; exact nI_lt (by omega) (by decide)) c_6)
    refine jr_aload_n dX8_tell_12 rfl ?_
    refine gfX8_55 47 dX8_tell_13 (hw.k rfl) (hw.f rfl) ?_
    refine jr_aload_n dX8_tell_16 rfl ?_
    refine gfX8_59 dX8_tell_17 (hw.k rfl) ?_
    rw [h0]
    refine jr_iload_n dX8_tell_20 rfl ?_
    refine jr_iast n (hw.k rfl) rfl ⟨by omega, by decide⟩ dX8_tell_21 ?_
    refine jr_aload_n dX8_tell_22 rfl ?_
    refine jr_dup dX8_tell_23 rfl ?_
    refine gfX8_59 dX8_tell_24 (hw.k rfl) ?_
    rw [wI_sR_n _ (by decide), h0]
    refine jr_iconst (1) dX8_tell_27 (by decide) ?_
    refine jr_iadd dX8_tell_28 ?_
    rw [jlit 1, nI_add]
    refine pfX8_59 dX8_tell_29 (hw.k rfl) ?_
    rw [wI_sR_n _ (by decide)]
    refine jr_aload_n dX8_tell_32 rfl ?_
    refine gfX8_59 dX8_tell_33 (hw.k rfl) ?_
    rw [wI_sR_s, pk_us]
    refine jr_iret rfl dX8_tell_36 ?_
    exact hQ _ _ (Or.inr ⟨by omega, rfl, rfl⟩)
theorem p_trim (g : Cx) (w : Wd) (hw : Wf w) (n : Nat) (hn : n ≤ 96) (h0 : wI w 0 8 = nI n) (v : Int32) : CI g yX8_trim cX8_trim 2 (some .int) 1 0 0 [.ref (gb g + 0), .int v] w (fun r w' => (¬ inR v 0 n ∧ r = -1000000001 ∧ w = w') ∨ (inR v 0 n ∧ r = v ∧ w' = sR w 0 (upd (wI w 0) 8 v))) := by
  have en : (nI n).toInt = (n : Int) := i_nI (by omega)
  refine CI.of (own := RX8) (nm := "trim") (lv := [some (.ref (gb g + 0)), some (.int v)]) (by decide) rfl rfl (Nat.le_of_ble_eq_true rfl) rfl (fun Q hQ => ?_)
  refine jr_iload_n dX8_trim_0 rfl ?_
  refine jr_if_lt 12 dX8_trim_1 (by decide) (fun c_1 => ?_) (fun c_1 => ?_)
  · simp only [lt_i, le_i, eq_i, Int32.reduceToInt] at c_1
    refine jr_ldc (-1000000001) ckX8_80 dX8_trim_12 ?_
    refine jr_iret rfl dX8_trim_14 ?_
    exact hQ _ _ (Or.inl ⟨by unfold inR; omega, rfl, rfl⟩)
  · simp only [lt_i, le_i, eq_i, Int32.reduceToInt] at c_1
    refine jr_iload_n dX8_trim_4 rfl ?_
    refine jr_aload_n dX8_trim_5 rfl ?_
    refine gfX8_51 dX8_trim_6 (hw.k rfl) ?_
    rw [h0]
    refine jr_icmp_le 15 dX8_trim_9 (by decide) (fun c_9 => ?_) (fun c_9 => ?_)
    · simp only [lt_i, le_i, eq_i, Int32.reduceToInt] at c_9
      refine jr_aload_n dX8_trim_15 rfl ?_
      refine jr_iload_n dX8_trim_16 rfl ?_
      refine pfX8_51 dX8_trim_17 (hw.k rfl) ?_
      refine jr_iload_n dX8_trim_20 rfl ?_
      refine jr_iret rfl dX8_trim_21 ?_
      exact hQ _ _ (Or.inr ⟨by unfold inR; omega, rfl, rfl⟩)
    · simp only [lt_i, le_i, eq_i, Int32.reduceToInt] at c_9
      refine jr_ldc (-1000000001) ckX8_80 dX8_trim_12 ?_
      refine jr_iret rfl dX8_trim_14 ?_
      exact hQ _ _ (Or.inl ⟨by unfold inR; omega, rfl, rfl⟩)
abbrev sx8 (x : Int32) : Int32 := x.toInt8.toInt32
theorem b_sx (x : Int32) {i : Nat} (hi : i < 32) : bt (sx8 x) i = bt x (min i 7) := by
  unfold bt
  rw [Int8.toBitVec_toInt32, Int32.toBitVec_toInt8, BitVec.getLsbD_signExtend]
  rcases Nat.lt_or_ge i 8 with z | z
  · rw [if_pos z, BitVec.getLsbD_signExtend, if_pos hi]
    simp only [z, hi, decide_true, Bool.true_and]
    congr 1
    omega
  · rw [if_neg (by omega), BitVec.msb_eq_getLsbD_last, BitVec.getLsbD_signExtend]
    simp only [hi, decide_true, Bool.true_and]
    rw [show min i 7 = 7 by omega]
    simp
theorem sx_ext {x y : Int32} (h : ∀ i, i < 8 → bt x i = bt y i) : sx8 x = sx8 y := b_ext (fun i hi => by rw [b_sx x hi, b_sx y hi]; exact h _ (by omega))
theorem sx_sx (x : Int32) : x.toInt8.toInt32.toInt8.toInt32 = x.toInt8.toInt32 := sx_ext (x := sx8 x) (fun i hi => by rw [b_sx x (by omega), show min i 7 = i by omega])
def pbR (f : Nat → Int32) (n : Nat) (v : Int32) (m : Nat) : Nat → Int32 := fun j => if n ≤ j ∧ j < n + m then sx8 (uS v (nI (24 - 8 * (j - n)))) else f j
theorem pbR_s (f : Nat → Int32) (n : Nat) (v : Int32) (m : Nat) : upd (pbR f n v m) (n + m) (sx8 (uS v (nI (24 - 8 * m)))) = pbR f n v (m + 1) := by
  funext j
  by_cases h : j = n + m
  · subst h
    rw [pk_us, pbR, if_pos (by omega), show n + m - n = m by omega]
  · rw [pk_un h, pbR, pbR]
    by_cases h2 : n ≤ j ∧ j < n + m
    · rw [if_pos h2, if_pos (by omega)]
    · rw [if_neg h2, if_neg (by omega)]
theorem pbR_0 (f : Nat → Int32) (n : Nat) (v : Int32) : pbR f n v 0 = f := by
  funext j
  rw [pbR, if_neg (by omega)]
theorem c_putBytes (g : Cx) (w : Wd) (hw : Wf w) (n : Nat) (hn : n + 4 ≤ 96) (h0 : wI w 0 8 = nI n) (v : Int32) : CV g yX8_putBytes cX8_putBytes 3 1 0 0 [.ref (gb g + 0), .int v] w (fun w' => wI w' 46 = pbR (wI w 46) n v 4 ∧ wI w' 0 = upd (wI w 0) 8 (nI (n + 4)) ∧ Sm (fun i => i = 0 ∨ i = 46) w w') := by
  refine CV.of (own := RX8) (nm := "putBytes") (lv := [some (.ref (gb g + 0)), some (.int v), none]) (by decide) rfl rfl (Nat.le_of_ble_eq_true rfl) rfl (fun Q hQ => ?_)
  have L : ∀ (f m : Nat) (w1 : Wd) (sh : Int32), f + m = 4 → sh = (if m = 4 then -8 else nI (24 - 8 * m)) → Sm (fun i => i = 0 ∨ i = 46) w w1 → wI w1 46 = pbR (wI w 46) n v m → wI w1 0 = upd (wI w 0) 8 (nI (n + m)) → RR g RX8 cX8_putBytes 3 none "putBytes" 1 0 0 0 0 3 [some (.ref (gb g + 0)), some (.int v), some (.int sh)] [] w1 Q := by
    intro f
    induction f with
    | zero =>
      intro m w1 sh hm hsh hS r46 r0
      have e : m = 4 := by omega
      subst e
      rw [if_pos rfl] at hsh
      subst hsh
      refine jr_iload_n dX8_putBytes_3 rfl ?_
      refine jr_if_lt 45 dX8_putBytes_4 (by decide) (fun c_4 => ?_) (fun c_4 => absurd (by decide) c_4)
      refine jr_vret rfl dX8_putBytes_45 ?_
      exact hQ _ ⟨r46, r0, hS⟩
    | succ f ih =>
      intro m w1 sh hm hsh hS r46 r0
      have hw1 := hS.wf hw
      have hm3 : m = 0 ∨ m = 1 ∨ m = 2 ∨ m = 3 := by omega
      rw [if_neg (by omega)] at hsh
      subst hsh
      have hinc : nI (24 - 8 * m) + Int32.ofInt (-8) = (if m + 1 = 4 then -8 else nI (24 - 8 * (m + 1))) := by
        rcases hm3 with rfl | rfl | rfl | rfl <;> decide
      have h9 := ih (m + 1) (sR (sR w1 46 (pbR (wI w 46) n v (m + 1))) 0 (upd (wI w 0) 8 (nI (n + (m + 1))))) _ (by omega) rfl ((hS.tr (Sm.sR (Or.inr rfl))).tr (Sm.sR (Or.inl rfl))) (by rw [wI_sR_n _ (by decide), wI_sR_s]) (by rw [wI_sR_s])
      refine jr_iload_n dX8_putBytes_3 rfl ?_
      refine jr_if_lt 45 dX8_putBytes_4 (by decide) (fun c_4 => absurd c_4 (nI_pos (by omega))) (fun c_4 => ?_)
      refine jr_aload_n dX8_putBytes_7 rfl ?_
      refine gfX8_51 dX8_putBytes_8 (hw1.k rfl) ?_
      rw [r0, pk_us]
      refine jr_bipush (96) dX8_putBytes_11 (by decide) ?_
      refine jr_icmp_ge 45 dX8_putBytes_13 (by decide) (fun c_13 => absurd c_13 (by rw [jlit 96]; exact nI_ge (by omega) (by decide))) (fun c_13 => ?_)
      refine jr_aload_n dX8_putBytes_16 rfl ?_
      refine gfX8_47 46 dX8_putBytes_17 (hw1.k rfl) (hw1.f rfl) ?_
      refine jr_aload_n dX8_putBytes_20 rfl ?_
      refine gfX8_51 dX8_putBytes_21 (hw1.k rfl) ?_
      rw [r0, pk_us]
      refine jr_iload_n dX8_putBytes_24 rfl ?_
      refine jr_iload_n dX8_putBytes_25 rfl ?_
      refine jr_iushr dX8_putBytes_26 ?_
      refine jr_i2b dX8_putBytes_27 ?_
      refine jr_bast (n + m) (hw1.k rfl) rfl ⟨by omega, by decide⟩ dX8_putBytes_28 ?_
      rw [sx_sx, r46, pbR_s]
      refine jr_aload_n dX8_putBytes_29 rfl ?_
      refine jr_dup dX8_putBytes_30 rfl ?_
      refine gfX8_51 dX8_putBytes_31 (hw1.k rfl) ?_
      rw [wI_sR_n _ (by decide), r0, pk_us]
      refine jr_iconst (1) dX8_putBytes_34 (by decide) ?_
      refine jr_iadd dX8_putBytes_35 ?_
      rw [jlit 1, nI_add]
      refine pfX8_51 dX8_putBytes_36 (hw1.k rfl) ?_
      rw [wI_sR_n _ (by decide), r0, upd_uu]
      refine jr_iinc_2 (if m + 1 = 4 then -8 else nI (24 - 8 * (m + 1))) dX8_putBytes_39 hinc (by decide) rfl ?_
      refine jr_goto 3 dX8_putBytes_42 (by decide) ?_
      exact h9
  refine jr_bipush (24) dX8_putBytes_0 (by decide) ?_
  refine jr_istore_2 dX8_putBytes_2 (by decide) rfl ?_
  exact L 4 0 w _ rfl rfl Sm.rf (pbR_0 _ _ _).symm (by rw [Nat.add_zero, ← h0, upd_id])
theorem by_sx (v : Int32) {m : Nat} (hm : m < 4) : sx8 (uS v (nI (24 - 8 * m))) = sx8 ((v >>> ((24 - 8 * nI m) &&& 31)) &&& 255) := by
  have e1 : (24 : Int32) - 8 * nI m = nI (24 - 8 * m) := by
    have hm3 : m = 0 ∨ m = 1 ∨ m = 2 ∨ m = 3 := by omega
    rcases hm3 with rfl | rfl | rfl | rfl <;> decide
  rw [e1]
  refine sx_ext (fun i hi => ?_)
  rw [b_and, b_255, decide_eq_true hi, Bool.and_true, b_sshr _ (by omega) v (by omega), if_pos (by omega)]
  exact b_ushr _ (by omega) v i
theorem p_feed (g : Cx) (w : Wd) (hw : Wf w) (n : Nat) (hn : n ≤ 96) (h0 : wI w 0 8 = nI n) (a b c : Int32) : CI g yX8_feed cX8_feed 4 (some .int) 2 0 0 [.ref (gb g + 0), .int a, .int b, .int c] w (fun r w' => (84 < n ∧ r = -1000000003 ∧ w = w') ∨ (n ≤ 84 ∧ r = nI (n + 12) ∧ (∀ T : Nat → Int32, (∀ j, j < n → wI w 46 j = sx8 (T j)) → ∀ j, j < n + 12 → wI w' 46 j = sx8 (fdR T n a b c 12 j)) ∧ wI w' 0 = upd (wI w 0) 8 (nI (n + 12)) ∧ Sm (fun i => i = 0 ∨ i = 46) w w')) := by
  have en : (nI (n + 12)).toInt = ((n + 12 : Nat) : Int) := i_nI (by omega)
  refine CI.of (own := RX8) (nm := "feed") (lv := [some (.ref (gb g + 0)), some (.int a), some (.int b), some (.int c)]) (by decide) rfl rfl (Nat.le_of_ble_eq_true rfl) rfl (fun Q hQ => ?_)
  by_cases h84 : n ≤ 84
  · have K30 : ∀ w1, Sm (fun i => i = 0 ∨ i = 46) w w1 → wI w1 46 = pbR (pbR (pbR (wI w 46) n a 4) (n + 4) b 4) (n + 8) c 4 → wI w1 0 = upd (wI w 0) 8 (nI (n + 12)) → RR g RX8 cX8_feed 4 (some .int) "feed" 2 0 0 0 0 30 [some (.ref (gb g + 0)), some (.int a), some (.int b), some (.int c)] [] w1 Q := by
      intro w1 hS r46 r0
      have hw1 := hS.wf hw
      refine jr_aload_n dX8_feed_30 rfl ?_
      refine gfX8_51 dX8_feed_31 (hw1.k rfl) ?_
      rw [r0, pk_us]
      refine jr_iret rfl dX8_feed_34 ?_
      refine hQ _ _ (Or.inr ⟨h84, rfl, fun T hT j hj => ?_, r0, hS⟩)
      rw [r46]
      by_cases c3 : n + 8 ≤ j
      · rw [pbR, if_pos (by omega), fdR, if_pos (by omega), byF, if_neg (by omega), if_neg (by omega), show (j - n) % 4 = j - (n + 8) by omega]
        exact by_sx c (by omega)
      · rw [pbR, if_neg (by omega)]
        by_cases c2 : n + 4 ≤ j
        · rw [pbR, if_pos (by omega), fdR, if_pos (by omega), byF, if_neg (by omega), if_pos (by omega), show (j - n) % 4 = j - (n + 4) by omega]
          exact by_sx b (by omega)
        · rw [pbR, if_neg (by omega)]
          by_cases c1 : n ≤ j
          · rw [pbR, if_pos (by omega), fdR, if_pos (by omega), byF, if_pos (by omega), show (j - n) % 4 = j - n by omega]
            exact by_sx a (by omega)
          · rw [pbR, if_neg (by omega), fdR, if_neg (by omega)]
            exact hT j (by omega)
    have K25 : ∀ w1, Sm (fun i => i = 0 ∨ i = 46) w w1 → wI w1 46 = pbR (pbR (wI w 46) n a 4) (n + 4) b 4 → wI w1 0 = upd (wI w 0) 8 (nI (n + 8)) → RR g RX8 cX8_feed 4 (some .int) "feed" 2 0 0 0 0 25 [some (.ref (gb g + 0)), some (.int a), some (.int b), some (.int c)] [] w1 Q := by
      intro w1 hS r46 r0
      have hw1 := hS.wf hw
      refine jr_aload_n dX8_feed_25 rfl ?_
      refine jr_iload_n dX8_feed_26 rfl ?_
      refine jc_Vv (c_putBytes g _ hw1 (n + 8) (by omega) (by rw [r0, pk_us]) c) lkX8_233 (hw1.k rfl) rfl rfl (Nat.le_of_ble_eq_true rfl) (Nat.le_of_ble_eq_true rfl) dX8_feed_27 (fun w_27 h_27 => ?_)
      obtain ⟨q1, q2, hS2⟩ := h_27
      exact K30 _ (hS.tr hS2) (by rw [q1, r46]) (by rw [q2, r0, upd_uu])
    have K20 : ∀ w1, Sm (fun i => i = 0 ∨ i = 46) w w1 → wI w1 46 = pbR (wI w 46) n a 4 → wI w1 0 = upd (wI w 0) 8 (nI (n + 4)) → RR g RX8 cX8_feed 4 (some .int) "feed" 2 0 0 0 0 20 [some (.ref (gb g + 0)), some (.int a), some (.int b), some (.int c)] [] w1 Q := by
      intro w1 hS r46 r0
      have hw1 := hS.wf hw
      refine jr_aload_n dX8_feed_20 rfl ?_
      refine jr_iload_n dX8_feed_21 rfl ?_
      refine jc_Vv (c_putBytes g _ hw1 (n + 4) (by omega) (by rw [r0, pk_us]) b) lkX8_233 (hw1.k rfl) rfl rfl (Nat.le_of_ble_eq_true rfl) (Nat.le_of_ble_eq_true rfl) dX8_feed_22 (fun w_22 h_22 => ?_)
      obtain ⟨q1, q2, hS2⟩ := h_22
      exact K25 _ (hS.tr hS2) (by rw [q1, r46]) (by rw [q2, r0, upd_uu])
    refine jr_aload_n dX8_feed_0 rfl ?_
    refine gfX8_51 dX8_feed_1 (hw.k rfl) ?_
    rw [h0]
    refine jr_bipush (12) dX8_feed_4 (by decide) ?_
    refine jr_iadd dX8_feed_6 ?_
    rw [jlit 12, nI_add]
    refine jr_bipush (96) dX8_feed_7 (by decide) ?_
    refine jr_icmp_le 15 dX8_feed_9 (by decide) (fun c_9 => ?_) (fun c_9 => absurd (by rw [jlit 96]; exact nI_le (by omega) (by decide)) c_9)
    refine jr_aload_n dX8_feed_15 rfl ?_
    refine jr_iload_n dX8_feed_16 rfl ?_
    refine jc_Vv (c_putBytes g _ hw n (by omega) h0 a) lkX8_233 (hw.k rfl) rfl rfl (Nat.le_of_ble_eq_true rfl) (Nat.le_of_ble_eq_true rfl) dX8_feed_17 (fun w_17 h_17 => ?_)
    obtain ⟨q1, q2, hS2⟩ := h_17
    exact K20 _ hS2 q1 q2
  · refine jr_aload_n dX8_feed_0 rfl ?_
    refine gfX8_51 dX8_feed_1 (hw.k rfl) ?_
    rw [h0]
    refine jr_bipush (12) dX8_feed_4 (by decide) ?_
    refine jr_iadd dX8_feed_6 ?_
    rw [jlit 12, nI_add]
    refine jr_bipush (96) dX8_feed_7 (by decide) ?_
    refine jr_icmp_le 15 dX8_feed_9 (by decide) (fun c_9 => absurd c_9 (by rw [jlit 96]; exact nI_ge (by omega) (by omega))) (fun c_9 => ?_)
    refine jr_ldc (-1000000003) ckX8_84 dX8_feed_12 ?_
    refine jr_iret rfl dX8_feed_14 ?_
    exact hQ _ _ (Or.inl ⟨by omega, rfl, rfl⟩)
