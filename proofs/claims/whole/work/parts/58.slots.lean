-- the class: slots; rows that are checked
def SlC (w : Wd) (c : Nat) : Prop := jK w c 4 0 ∧ wF w c 1 = some (c + 1) ∧ wF w c 2 = some (c + 2) ∧ jK w (c + 1) 0 0 ∧ ShC w (c + 2)
theorem slc {w : Wd} (hw : Wf w) {k : Nat} (hk : k < 5) : SlC w (58 + 4 * k) := by
  have hc : k = 0 ∨ k = 1 ∨ k = 2 ∨ k = 3 ∨ k = 4 := by omega
  rcases hc with rfl | rfl | rfl | rfl | rfl <;> exact ⟨hw.k rfl, hw.f rfl, hw.f rfl, hw.k rfl, hw.k rfl, hw.k rfl, hw.f rfl⟩
theorem slf {w : Wd} (hw : Wf w) {k : Nat} (hk : k < 5) : wF w 49 k = some (58 + 4 * k) := by
  have hc : k = 0 ∨ k = 1 ∨ k = 2 ∨ k = 3 ∨ k = 4 := by omega
  rcases hc with rfl | rfl | rfl | rfl | rfl <;> exact hw.f rfl
def SlR (w : Wd) (S : Sl) : Prop := ∀ k, k < 5 → wI w (58 + 4 * k) 0 = S.1 k ∧ (S.1 k = 0 ∨ S.1 k = 1 ∨ S.1 k = 2 ∨ S.1 k = 3) ∧
  (S.1 k = 1 → ∃ kd, kd ≤ 5 ∧ wI w (58 + 4 * k + 1) 0 = nI kd ∧ S.2.1 k = nI kd ∧ S.2.2.1 k = woF kd (wI w (58 + 4 * k + 1) 1)) ∧
  (S.1 k = 2 → ∃ n, n ≤ 24 ∧ S.2.2.2.1 k = nI n ∧ wI w (58 + 4 * k + 2) 1 = nI n ∧ ∀ j, j < 24 → wI w (58 + 4 * k + 2 + 1) j = S.2.2.2.2 (24 * k + j)) ∧
  (S.1 k = 3 → wI w (58 + 4 * k) 3 = S.2.1 k)
def scSl : Nat → Prop := fun i => 58 ≤ i ∧ i ≤ 77
theorem SlR.sq {w w' : Wd} {S : Sl} (h : SlR w S) (hr : ∀ i, scSl i → wI w' i = wI w i) : SlR w' S := by
  intro k hk
  rw [hr (58 + 4 * k) (by unfold scSl; omega), hr (58 + 4 * k + 1) (by unfold scSl; omega), hr (58 + 4 * k + 2) (by unfold scSl; omega), hr (58 + 4 * k + 2 + 1) (by unfold scSl; omega)]
  exact h k hk
theorem p_rest (g : Cx) (w : Wd) (hw : Wf w) (S : Sl) (hS : SlR w S) (k n : Int32) : CI g yX8_rest cX8_rest 4 (some .int) 2 0 0 [.ref (gb g + 0), .int k, .int n] w (fun r w' => r = F_rest S.1 S.2.1 k n ∧ w = w') := by
  refine CI.of (own := RX8) (nm := "rest") (lv := [some (.ref (gb g + 0)), some (.int k), some (.int n), none]) (by decide) rfl rfl (Nat.le_of_ble_eq_true rfl) rfl (fun Q hQ => ?_)
  by_cases hk : 0 ≤ k.toInt ∧ k.toInt < 5
  · obtain ⟨q, hq, eq⟩ := i_of (n := 5) (x := k) hk.1 hk.2
    subst eq
    have eqc : (nI q).toNatClampNeg = q := nI_clamp (by omega)
    have hC := slc hw hq
    obtain ⟨z1, z2, z3, z4, z5⟩ := hS q hq
    have eF : F_rest S.1 S.2.1 (nI q) n = if (S.1 q).toInt = 3 then (if n = 0 then -1000000002 else rmI (S.2.1 q) n) else if (S.1 q).toInt = 0 then -1000000011 else -1000000012 := by rw [F_rest, if_pos hk, eqc]
    rw [eF] at hQ
    refine jr_iload_n dX8_rest_0 rfl ?_
    refine jr_iconst (5) dX8_rest_1 (by decide) ?_
    refine jc_Si (c_wi g _ _ _ 5 rfl) lkX8_76 rfl rfl (Nat.le_of_ble_eq_true rfl) (Nat.le_of_ble_eq_true rfl) dX8_rest_2 (fun r_2 w_2 h_2 => ?_)
    obtain ⟨rfl, rfl⟩ := h_2
    refine jr_if_ne 11 dX8_rest_5 (by decide) (fun c_5 => ?_) (fun c_5 => absurd c_5 (jb_1.mpr hk))
    refine jr_aload_n dX8_rest_11 rfl ?_
    refine gfX8_70 49 dX8_rest_12 (hw.k rfl) (hw.f rfl) ?_
    refine jr_iload_n dX8_rest_15 rfl ?_
    refine jr_aald q (hw.k rfl) (by decide) rfl ⟨hq, by decide⟩ (by rw [slf hw hq, jrf_s]) dX8_rest_16 ?_
    refine jr_astore_3 dX8_rest_17 (by decide) rfl ?_
    refine jr_aload_n dX8_rest_18 rfl ?_
    refine gfX8_295 dX8_rest_19 hC.1 ?_
    rw [z1]
    refine jr_if_ne 28 dX8_rest_22 (by decide) (fun c_22 => ?_) (fun c_22 => ?_)
    · simp only [lt_i, le_i, eq_i, Int32.reduceToInt] at c_22
      refine jr_aload_n dX8_rest_28 rfl ?_
      refine gfX8_295 dX8_rest_29 hC.1 ?_
      rw [z1]
      refine jr_iconst (3) dX8_rest_32 (by decide) ?_
      refine jr_icmp_eq 39 dX8_rest_33 (by decide) (fun c_33 => ?_) (fun c_33 => ?_)
      · simp only [lt_i, le_i, eq_i, Int32.reduceToInt] at c_33
        refine jr_iload_n dX8_rest_39 rfl ?_
        refine jr_if_ne 49 dX8_rest_40 (by decide) (fun c_40 => ?_) (fun c_40 => ?_)
        · refine jr_aload_n dX8_rest_49 rfl ?_
          refine gfX8_312 dX8_rest_50 hC.1 ?_
          rw [z5 (by rw [eq_i]; exact c_33)]
          refine jr_iload_n dX8_rest_53 rfl ?_
          refine jr_irem dX8_rest_54 c_40 ?_
          refine jr_iret rfl dX8_rest_55 ?_
          refine hQ _ _ ⟨?_, rfl⟩
          rw [if_pos (by omega)]
          first | rw [if_pos c_40] | (rw [if_neg c_40]; rfl)
        · refine jr_ldcw (-1000000002) ckX8_315 dX8_rest_43 ?_
          refine jr_goto 55 dX8_rest_46 (by decide) ?_
          refine jr_iret rfl dX8_rest_55 ?_
          refine hQ _ _ ⟨?_, rfl⟩
          rw [if_pos (by omega)]
          first | rw [if_pos c_40] | (rw [if_neg c_40]; rfl)
      · simp only [lt_i, le_i, eq_i, Int32.reduceToInt] at c_33
        refine jr_ldc (-1000000012) ckX8_126 dX8_rest_36 ?_
        refine jr_iret rfl dX8_rest_38 ?_
        exact hQ _ _ ⟨by rw [if_neg (by omega), if_neg (by omega)], rfl⟩
    · simp only [lt_i, le_i, eq_i, Int32.reduceToInt] at c_22
      refine jr_ldc (-1000000011) ckX8_212 dX8_rest_25 ?_
      refine jr_iret rfl dX8_rest_27 ?_
      exact hQ _ _ ⟨by rw [if_neg (by omega), if_pos (by omega)], rfl⟩
  · refine jr_iload_n dX8_rest_0 rfl ?_
    refine jr_iconst (5) dX8_rest_1 (by decide) ?_
    refine jc_Si (c_wi g _ _ _ 5 rfl) lkX8_76 rfl rfl (Nat.le_of_ble_eq_true rfl) (Nat.le_of_ble_eq_true rfl) dX8_rest_2 (fun r_2 w_2 h_2 => ?_)
    obtain ⟨rfl, rfl⟩ := h_2
    refine jr_if_ne 11 dX8_rest_5 (by decide) (fun c_5 => absurd (jb_f hk) c_5) (fun c_5 => ?_)
    refine jr_ldc (-1000000001) ckX8_80 dX8_rest_8 ?_
    refine jr_iret rfl dX8_rest_10 ?_
    exact hQ _ _ ⟨by rw [F_rest, if_neg hk], rfl⟩
theorem p_ask (g : Cx) (w : Wd) (hw : Wf w) (S : Sl) (hS : SlR w S) (k x : Int32) : CI g yX8_ask cX8_ask 4 (some .int) 3 0 0 [.ref (gb g + 0), .int k, .int x] w (fun r w' => r = F_ask S.1 S.2.1 S.2.2.1 k x ∧ w = w') := by
  refine CI.of (own := RX8) (nm := "ask") (lv := [some (.ref (gb g + 0)), some (.int k), some (.int x), none]) (by decide) rfl rfl (Nat.le_of_ble_eq_true rfl) rfl (fun Q hQ => ?_)
  by_cases hk : (0 ≤ k.toInt ∧ k.toInt < 5) ∧ inR x 0 5
  · obtain ⟨q, hq, eq⟩ := i_of (n := 5) (x := k) hk.1.1 hk.1.2
    have hxr : 0 ≤ x.toInt ∧ x.toInt < 6 := by have := hk.2; unfold inR at this; omega
    obtain ⟨xx, hxx, exx⟩ := i_of (n := 6) (x := x) hxr.1 hxr.2
    subst eq
    subst exx
    have exi : (nI xx).toInt = (xx : Int) := i_nI (by omega)
    have eqc : (nI q).toNatClampNeg = q := nI_clamp (by omega)
    have hC := slc hw hq
    obtain ⟨z1, z2, z3, z4, z5⟩ := hS q hq
    have eF : F_ask S.1 S.2.1 S.2.2.1 (nI q) (nI xx) = if (S.1 q).toInt = 0 then -1000000011 else if (S.1 q).toInt = 1 ∧ ((S.2.1 q).toInt = (nI xx).toInt ∨ (nI xx).toInt = 0 ∨ ((nI xx).toInt = 1 ∧ (S.2.1 q).toInt = 3) ∨ ((nI xx).toInt = 2 ∧ (S.2.1 q).toInt = 4)) then S.2.2.1 q else -1000000012 := by rw [F_ask, if_pos hk, eqc]
    rw [eF] at hQ
    by_cases h1 : S.1 q = 1
    · obtain ⟨kd, hkd, y1, y2, y3⟩ := z3 h1
      have ekd : (nI kd).toInt = (kd : Int) := i_nI (by omega)
      have e1 : (S.1 q).toInt = 1 := by rw [h1]; rfl
      rw [y2, y3] at hQ
      refine jr_iload_n dX8_ask_0 rfl ?_
      refine jr_iconst (5) dX8_ask_1 (by decide) ?_
      refine jc_Si (c_wi g _ _ _ 5 rfl) lkX8_76 rfl rfl (Nat.le_of_ble_eq_true rfl) (Nat.le_of_ble_eq_true rfl) dX8_ask_2 (fun r_2 w_2 h_2 => ?_)
      obtain ⟨rfl, rfl⟩ := h_2
      refine jr_if_eq 17 dX8_ask_5 (by decide) (fun c_5 => absurd c_5 (jb_1.mpr hk.1)) (fun c_5 => ?_)
      refine jr_iload_n dX8_ask_8 rfl ?_
      refine jr_bipush (6) dX8_ask_9 (by decide) ?_
      refine jc_Si (c_wi g _ _ _ 6 rfl) lkX8_76 rfl rfl (Nat.le_of_ble_eq_true rfl) (Nat.le_of_ble_eq_true rfl) dX8_ask_11 (fun r_11 w_11 h_11 => ?_)
      obtain ⟨rfl, rfl⟩ := h_11
      refine jr_if_ne 20 dX8_ask_14 (by decide) (fun c_14 => ?_) (fun c_14 => absurd c_14 (jb_1.mpr hxr))
      refine jr_aload_n dX8_ask_20 rfl ?_
      refine gfX8_70 49 dX8_ask_21 (hw.k rfl) (hw.f rfl) ?_
      refine jr_iload_n dX8_ask_24 rfl ?_
      refine jr_aald q (hw.k rfl) (by decide) rfl ⟨hq, by decide⟩ (by rw [slf hw hq, jrf_s]) dX8_ask_25 ?_
      refine jr_astore_3 dX8_ask_26 (by decide) rfl ?_
      refine jr_aload_n dX8_ask_27 rfl ?_
      refine gfX8_295 dX8_ask_28 hC.1 ?_
      rw [z1, h1]
      refine jr_if_ne 37 dX8_ask_31 (by decide) (fun c_31 => ?_) (fun c_31 => absurd c_31 (by decide))
      refine jr_aload_n dX8_ask_37 rfl ?_
      refine gfX8_295 dX8_ask_38 hC.1 ?_
      rw [z1, h1]
      refine jr_iconst (1) dX8_ask_41 (by decide) ?_
      refine jr_icmp_ne 59 dX8_ask_42 (by decide) (fun c_42 => absurd rfl c_42) (fun c_42 => ?_)
      refine jr_aload_n dX8_ask_45 rfl ?_
      refine gfX8_298 ((58 + 4 * q) + 1) dX8_ask_46 hC.1 hC.2.1 ?_
      refine gfX8_97 dX8_ask_49 hC.2.2.2.1 ?_
      rw [y1]
      refine jr_iload_n dX8_ask_52 rfl ?_
      refine jc_Si (c_isUnder g _ kd xx hkd (by omega)) lkX8_123 rfl rfl (Nat.le_of_ble_eq_true rfl) (Nat.le_of_ble_eq_true rfl) dX8_ask_53 (fun r_53 w_53 h_53 => ?_)
      obtain ⟨rfl, rfl⟩ := h_53
      refine jr_if_ne 62 dX8_ask_56 (by decide) (fun c_56 => ?_) (fun c_56 => ?_)
      · rw [jb_1] at c_56
        refine jr_aload_n dX8_ask_62 rfl ?_
        refine gfX8_298 ((58 + 4 * q) + 1) dX8_ask_63 hC.1 hC.2.1 ?_
        refine jc_Vi (c_cworth g _ (58 + 4 * q + 1) kd hC.2.2.2.1 hkd y1) lkX8_120 hC.2.2.2.1 rfl rfl (Nat.le_of_ble_eq_true rfl) (Nat.le_of_ble_eq_true rfl) dX8_ask_66 (fun r_66 w_66 h_66 => ?_)
        obtain ⟨rfl, rfl⟩ := h_66
        refine jr_iret rfl dX8_ask_69 ?_
        exact hQ _ _ ⟨by rw [if_neg (by omega), if_pos (by omega)], rfl⟩
      · rw [jb_0] at c_56
        refine jr_ldc (-1000000012) ckX8_126 dX8_ask_59 ?_
        refine jr_iret rfl dX8_ask_61 ?_
        exact hQ _ _ ⟨by rw [if_neg (by omega), if_neg (by omega)], rfl⟩
    · have e1 : ¬ (S.1 q).toInt = 1 := fun h => h1 (by rw [eq_i]; exact h)
      refine jr_iload_n dX8_ask_0 rfl ?_
      refine jr_iconst (5) dX8_ask_1 (by decide) ?_
      refine jc_Si (c_wi g _ _ _ 5 rfl) lkX8_76 rfl rfl (Nat.le_of_ble_eq_true rfl) (Nat.le_of_ble_eq_true rfl) dX8_ask_2 (fun r_2 w_2 h_2 => ?_)
      obtain ⟨rfl, rfl⟩ := h_2
      refine jr_if_eq 17 dX8_ask_5 (by decide) (fun c_5 => absurd c_5 (jb_1.mpr hk.1)) (fun c_5 => ?_)
      refine jr_iload_n dX8_ask_8 rfl ?_
      refine jr_bipush (6) dX8_ask_9 (by decide) ?_
      refine jc_Si (c_wi g _ _ _ 6 rfl) lkX8_76 rfl rfl (Nat.le_of_ble_eq_true rfl) (Nat.le_of_ble_eq_true rfl) dX8_ask_11 (fun r_11 w_11 h_11 => ?_)
      obtain ⟨rfl, rfl⟩ := h_11
      refine jr_if_ne 20 dX8_ask_14 (by decide) (fun c_14 => ?_) (fun c_14 => absurd c_14 (jb_1.mpr hxr))
      refine jr_aload_n dX8_ask_20 rfl ?_
      refine gfX8_70 49 dX8_ask_21 (hw.k rfl) (hw.f rfl) ?_
      refine jr_iload_n dX8_ask_24 rfl ?_
      refine jr_aald q (hw.k rfl) (by decide) rfl ⟨hq, by decide⟩ (by rw [slf hw hq, jrf_s]) dX8_ask_25 ?_
      refine jr_astore_3 dX8_ask_26 (by decide) rfl ?_
      refine jr_aload_n dX8_ask_27 rfl ?_
      refine gfX8_295 dX8_ask_28 hC.1 ?_
      rw [z1]
      refine jr_if_ne 37 dX8_ask_31 (by decide) (fun c_31 => ?_) (fun c_31 => ?_)
      · simp only [lt_i, le_i, eq_i, Int32.reduceToInt] at c_31
        refine jr_aload_n dX8_ask_37 rfl ?_
        refine gfX8_295 dX8_ask_38 hC.1 ?_
        rw [z1]
        refine jr_iconst (1) dX8_ask_41 (by decide) ?_
        refine jr_icmp_ne 59 dX8_ask_42 (by decide) (fun c_42 => ?_) (fun c_42 => absurd c_42 h1)
        refine jr_ldc (-1000000012) ckX8_126 dX8_ask_59 ?_
        refine jr_iret rfl dX8_ask_61 ?_
        exact hQ _ _ ⟨by rw [if_neg (by omega), if_neg (fun h => e1 h.1)], rfl⟩
      · simp only [lt_i, le_i, eq_i, Int32.reduceToInt] at c_31
        refine jr_ldc (-1000000011) ckX8_212 dX8_ask_34 ?_
        refine jr_iret rfl dX8_ask_36 ?_
        exact hQ _ _ ⟨by rw [if_pos (by omega)], rfl⟩
  · refine jr_iload_n dX8_ask_0 rfl ?_
    refine jr_iconst (5) dX8_ask_1 (by decide) ?_
    refine jc_Si (c_wi g _ _ _ 5 rfl) lkX8_76 rfl rfl (Nat.le_of_ble_eq_true rfl) (Nat.le_of_ble_eq_true rfl) dX8_ask_2 (fun r_2 w_2 h_2 => ?_)
    obtain ⟨rfl, rfl⟩ := h_2
    refine jr_if_eq 17 dX8_ask_5 (by decide) (fun c_5 => ?_) (fun c_5 => ?_)
    · rw [jb_0] at c_5
      refine jr_ldc (-1000000001) ckX8_80 dX8_ask_17 ?_
      refine jr_iret rfl dX8_ask_19 ?_
      exact hQ _ _ ⟨by rw [F_ask, if_neg hk], rfl⟩
    · rw [jb_1] at c_5
      refine jr_iload_n dX8_ask_8 rfl ?_
      refine jr_bipush (6) dX8_ask_9 (by decide) ?_
      refine jc_Si (c_wi g _ _ _ 6 rfl) lkX8_76 rfl rfl (Nat.le_of_ble_eq_true rfl) (Nat.le_of_ble_eq_true rfl) dX8_ask_11 (fun r_11 w_11 h_11 => ?_)
      obtain ⟨rfl, rfl⟩ := h_11
      refine jr_if_ne 20 dX8_ask_14 (by decide) (fun c_14 => ?_) (fun c_14 => ?_)
      · rw [jb_1] at c_14
        exfalso; exact hk ⟨c_5, by unfold inR; omega⟩
      · rw [jb_0] at c_14
        refine jr_ldc (-1000000001) ckX8_80 dX8_ask_17 ?_
        refine jr_iret rfl dX8_ask_19 ?_
        exact hQ _ _ ⟨by rw [F_ask, if_neg hk], rfl⟩
theorem p_item (g : Cx) (w : Wd) (hw : Wf w) (S : Sl) (hS : SlR w S) (k p : Int32) : CI g yX8_item cX8_item 4 (some .int) 3 0 0 [.ref (gb g + 0), .int k, .int p] w (fun r w' => r = F_item S.1 S.2.2.2.1 S.2.2.2.2 k p ∧ w = w') := by
  refine CI.of (own := RX8) (nm := "item") (lv := [some (.ref (gb g + 0)), some (.int k), some (.int p), none]) (by decide) rfl rfl (Nat.le_of_ble_eq_true rfl) rfl (fun Q hQ => ?_)
  by_cases hk : 0 ≤ k.toInt ∧ k.toInt < 5
  · obtain ⟨q, hq, eq⟩ := i_of (n := 5) (x := k) hk.1 hk.2
    subst eq
    have eqc : (nI q).toNatClampNeg = q := nI_clamp (by omega)
    have hC := slc hw hq
    obtain ⟨z1, z2, z3, z4, z5⟩ := hS q hq
    have eF : F_item S.1 S.2.2.2.1 S.2.2.2.2 (nI q) p = if (S.1 q).toInt = 2 then (if 0 ≤ p.toInt ∧ p.toInt < (S.2.2.2.1 q).toInt then (if S.2.2.2.2 (24 * q + p.toNatClampNeg) = -1000000005 then -1000000012 else S.2.2.2.2 (24 * q + p.toNatClampNeg)) else -1000000013) else if (S.1 q).toInt = 0 then -1000000011 else -1000000012 := by rw [F_item, if_pos hk, eqc]
    rw [eF] at hQ
    by_cases h2 : S.1 q = 2
    · obtain ⟨n, hn, y1, y2, y3⟩ := z4 h2
      have eni : (nI n).toInt = (n : Int) := i_nI (by omega)
      rw [if_pos (by rw [h2]; rfl), y1, eni] at hQ
      by_cases hp : 0 ≤ p.toInt ∧ p.toInt < n
      · obtain ⟨j, hj, ej⟩ := i_of (n := n) (x := p) hp.1 hp.2
        subst ej
        have ejc : (nI j).toNatClampNeg = j := nI_clamp (by omega)
        rw [if_pos hp, ejc] at hQ
        refine jr_iload_n dX8_item_0 rfl ?_
        refine jr_iconst (5) dX8_item_1 (by decide) ?_
        refine jc_Si (c_wi g _ _ _ 5 rfl) lkX8_76 rfl rfl (Nat.le_of_ble_eq_true rfl) (Nat.le_of_ble_eq_true rfl) dX8_item_2 (fun r_2 w_2 h_2 => ?_)
        obtain ⟨rfl, rfl⟩ := h_2
        refine jr_if_ne 11 dX8_item_5 (by decide) (fun c_5 => ?_) (fun c_5 => absurd c_5 (jb_1.mpr hk))
        refine jr_aload_n dX8_item_11 rfl ?_
        refine gfX8_70 49 dX8_item_12 (hw.k rfl) (hw.f rfl) ?_
        refine jr_iload_n dX8_item_15 rfl ?_
        refine jr_aald q (hw.k rfl) (by decide) rfl ⟨hq, by decide⟩ (by rw [slf hw hq, jrf_s]) dX8_item_16 ?_
        refine jr_astore_3 dX8_item_17 (by decide) rfl ?_
        refine jr_aload_n dX8_item_18 rfl ?_
        refine gfX8_295 dX8_item_19 hC.1 ?_
        rw [z1, h2]
        refine jr_if_ne 28 dX8_item_22 (by decide) (fun c_22 => ?_) (fun c_22 => absurd c_22 (by decide))
        refine jr_aload_n dX8_item_28 rfl ?_
        refine gfX8_295 dX8_item_29 hC.1 ?_
        rw [z1, h2]
        refine jr_iconst (2) dX8_item_32 (by decide) ?_
        refine jr_icmp_eq 39 dX8_item_33 (by decide) (fun c_33 => ?_) (fun c_33 => absurd rfl c_33)
        refine jr_iload_n dX8_item_39 rfl ?_
        refine jr_aload_n dX8_item_40 rfl ?_
        refine gfX8_305 ((58 + 4 * q) + 2) dX8_item_41 hC.1 hC.2.2.1 ?_
        refine gfX8_271 dX8_item_44 hC.2.2.2.2.1 ?_
        rw [y2]
        refine jc_Si (c_wi g _ _ _ n eni) lkX8_76 rfl rfl (Nat.le_of_ble_eq_true rfl) (Nat.le_of_ble_eq_true rfl) dX8_item_47 (fun r_47 w_47 h_47 => ?_)
        obtain ⟨rfl, rfl⟩ := h_47
        refine jr_if_ne 57 dX8_item_50 (by decide) (fun c_50 => ?_) (fun c_50 => absurd c_50 (jb_1.mpr hp))
        refine jr_aload_n dX8_item_57 rfl ?_
        refine gfX8_305 ((58 + 4 * q) + 2) dX8_item_58 hC.1 hC.2.2.1 ?_
        refine jr_iload_n dX8_item_61 rfl ?_
        refine jc_Vi (c_isNumber g _ _ hC.2.2.2.2 n j hn (by omega) y2) lkX8_280 hC.2.2.2.2.1 rfl rfl (Nat.le_of_ble_eq_true rfl) (Nat.le_of_ble_eq_true rfl) dX8_item_62 (fun r_62 w_62 h_62 => ?_)
        obtain ⟨rfl, rfl⟩ := h_62
        rw [y3 j (by omega)]
        refine jr_if_eq 80 dX8_item_65 (by decide) (fun c_65 => ?_) (fun c_65 => ?_)
        · rw [jb_0] at c_65
          refine jr_ldc (-1000000012) ckX8_126 dX8_item_80 ?_
          refine jr_iret rfl dX8_item_82 ?_
          refine hQ _ _ ⟨?_, rfl⟩
          first | (rw [if_neg c_65.2]; done) | (rw [if_pos (Decidable.not_not.mp (fun h => c_65 ⟨hj, h⟩))]; done)
        · rw [jb_1] at c_65
          refine jr_aload_n dX8_item_68 rfl ?_
          refine gfX8_305 ((58 + 4 * q) + 2) dX8_item_69 hC.1 hC.2.2.1 ?_
          refine gfX8_275 (((58 + 4 * q) + 2) + 1) dX8_item_72 hC.2.2.2.2.1 hC.2.2.2.2.2.2 ?_
          refine jr_iload_n dX8_item_75 rfl ?_
          refine jr_iald j hC.2.2.2.2.2.1 rfl ⟨by omega, by decide⟩ dX8_item_76 ?_
          rw [y3 j (by omega)]
          refine jr_goto 82 dX8_item_77 (by decide) ?_
          refine jr_iret rfl dX8_item_82 ?_
          refine hQ _ _ ⟨?_, rfl⟩
          first | (rw [if_neg c_65.2]; done) | (rw [if_pos (Decidable.not_not.mp (fun h => c_65 ⟨hj, h⟩))]; done)
      · rw [if_neg hp] at hQ
        refine jr_iload_n dX8_item_0 rfl ?_
        refine jr_iconst (5) dX8_item_1 (by decide) ?_
        refine jc_Si (c_wi g _ _ _ 5 rfl) lkX8_76 rfl rfl (Nat.le_of_ble_eq_true rfl) (Nat.le_of_ble_eq_true rfl) dX8_item_2 (fun r_2 w_2 h_2 => ?_)
        obtain ⟨rfl, rfl⟩ := h_2
        refine jr_if_ne 11 dX8_item_5 (by decide) (fun c_5 => ?_) (fun c_5 => absurd c_5 (jb_1.mpr hk))
        refine jr_aload_n dX8_item_11 rfl ?_
        refine gfX8_70 49 dX8_item_12 (hw.k rfl) (hw.f rfl) ?_
        refine jr_iload_n dX8_item_15 rfl ?_
        refine jr_aald q (hw.k rfl) (by decide) rfl ⟨hq, by decide⟩ (by rw [slf hw hq, jrf_s]) dX8_item_16 ?_
        refine jr_astore_3 dX8_item_17 (by decide) rfl ?_
        refine jr_aload_n dX8_item_18 rfl ?_
        refine gfX8_295 dX8_item_19 hC.1 ?_
        rw [z1, h2]
        refine jr_if_ne 28 dX8_item_22 (by decide) (fun c_22 => ?_) (fun c_22 => absurd c_22 (by decide))
        refine jr_aload_n dX8_item_28 rfl ?_
        refine gfX8_295 dX8_item_29 hC.1 ?_
        rw [z1, h2]
        refine jr_iconst (2) dX8_item_32 (by decide) ?_
        refine jr_icmp_eq 39 dX8_item_33 (by decide) (fun c_33 => ?_) (fun c_33 => absurd rfl c_33)
        refine jr_iload_n dX8_item_39 rfl ?_
        refine jr_aload_n dX8_item_40 rfl ?_
        refine gfX8_305 ((58 + 4 * q) + 2) dX8_item_41 hC.1 hC.2.2.1 ?_
        refine gfX8_271 dX8_item_44 hC.2.2.2.2.1 ?_
        rw [y2]
        refine jc_Si (c_wi g _ _ _ n eni) lkX8_76 rfl rfl (Nat.le_of_ble_eq_true rfl) (Nat.le_of_ble_eq_true rfl) dX8_item_47 (fun r_47 w_47 h_47 => ?_)
        obtain ⟨rfl, rfl⟩ := h_47
        refine jr_if_ne 57 dX8_item_50 (by decide) (fun c_50 => absurd (jb_f hp) c_50) (fun c_50 => ?_)
        refine jr_ldcw (-1000000013) ckX8_274 dX8_item_53 ?_
        refine jr_iret rfl dX8_item_56 ?_
        exact hQ _ _ ⟨rfl, rfl⟩
    · rw [if_neg (fun h => h2 (by rw [eq_i]; exact h))] at hQ
      refine jr_iload_n dX8_item_0 rfl ?_
      refine jr_iconst (5) dX8_item_1 (by decide) ?_
      refine jc_Si (c_wi g _ _ _ 5 rfl) lkX8_76 rfl rfl (Nat.le_of_ble_eq_true rfl) (Nat.le_of_ble_eq_true rfl) dX8_item_2 (fun r_2 w_2 h_2 => ?_)
      obtain ⟨rfl, rfl⟩ := h_2
      refine jr_if_ne 11 dX8_item_5 (by decide) (fun c_5 => ?_) (fun c_5 => absurd c_5 (jb_1.mpr hk))
      refine jr_aload_n dX8_item_11 rfl ?_
      refine gfX8_70 49 dX8_item_12 (hw.k rfl) (hw.f rfl) ?_
      refine jr_iload_n dX8_item_15 rfl ?_
      refine jr_aald q (hw.k rfl) (by decide) rfl ⟨hq, by decide⟩ (by rw [slf hw hq, jrf_s]) dX8_item_16 ?_
      refine jr_astore_3 dX8_item_17 (by decide) rfl ?_
      refine jr_aload_n dX8_item_18 rfl ?_
      refine gfX8_295 dX8_item_19 hC.1 ?_
      rw [z1]
      refine jr_if_ne 28 dX8_item_22 (by decide) (fun c_22 => ?_) (fun c_22 => ?_)
      · simp only [lt_i, le_i, eq_i, Int32.reduceToInt] at c_22
        refine jr_aload_n dX8_item_28 rfl ?_
        refine gfX8_295 dX8_item_29 hC.1 ?_
        rw [z1]
        refine jr_iconst (2) dX8_item_32 (by decide) ?_
        refine jr_icmp_eq 39 dX8_item_33 (by decide) (fun c_33 => absurd c_33 h2) (fun c_33 => ?_)
        refine jr_ldc (-1000000012) ckX8_126 dX8_item_36 ?_
        refine jr_iret rfl dX8_item_38 ?_
        exact hQ _ _ ⟨by rw [if_neg (by omega)], rfl⟩
      · simp only [lt_i, le_i, eq_i, Int32.reduceToInt] at c_22
        refine jr_ldc (-1000000011) ckX8_212 dX8_item_25 ?_
        refine jr_iret rfl dX8_item_27 ?_
        exact hQ _ _ ⟨by rw [if_pos (by omega)], rfl⟩
  · refine jr_iload_n dX8_item_0 rfl ?_
    refine jr_iconst (5) dX8_item_1 (by decide) ?_
    refine jc_Si (c_wi g _ _ _ 5 rfl) lkX8_76 rfl rfl (Nat.le_of_ble_eq_true rfl) (Nat.le_of_ble_eq_true rfl) dX8_item_2 (fun r_2 w_2 h_2 => ?_)
    obtain ⟨rfl, rfl⟩ := h_2
    refine jr_if_ne 11 dX8_item_5 (by decide) (fun c_5 => absurd (jb_f hk) c_5) (fun c_5 => ?_)
    refine jr_ldc (-1000000001) ckX8_80 dX8_item_8 ?_
    refine jr_iret rfl dX8_item_10 ?_
    exact hQ _ _ ⟨by rw [F_item, if_neg hk], rfl⟩
def CL1 (w w' : Wd) (S : Sl) : Prop := SlR w' S ∧ Sm scSl w w'
theorem p_lay (g : Cx) (w : Wd) (hw : Wf w) (s : Nat → Int32) (hG : Gd s) (hN : NR w 1 s) (R : Sh) (hR : ShR w R) (hO : ShOk R) (S : Sl) (hS : SlR w S) (k th v : Int32) : CI g yX8_lay cX8_lay 6 (some .int) 3 0 0 [.ref (gb g + 0), .int k, .int th, .int v] w (fun r w' => r = (F_lay S R s k th v).1 ∧ CL1 w w' (F_lay S R s k th v).2) := by
  obtain ⟨h0, -, hmi, -, -, -, hC, -, hX⟩ := id hG
  have h6 := h0.2
  refine CI.of (own := RX8) (nm := "lay") (lv := [some (.ref (gb g + 0)), some (.int k), some (.int th), some (.int v), none, none]) (by decide) rfl rfl (Nat.le_of_ble_eq_true rfl) rfl (fun Q hQ => ?_)
  by_cases hok : okLay s k th v
  · obtain ⟨hk, hth⟩ := id hok
    obtain ⟨q, hq, eq⟩ := i_of (n := 5) (x := k) hk.1 hk.2
    subst eq
    have eqc : (nI q).toNatClampNeg = q := nI_clamp (by omega)
    have hCq := slc hw hq
    obtain ⟨z1, -⟩ := hS q hq
    -- others stay
    have oth : ∀ (w' : Wd) (S' : Sl), Sm scSl w w' → (∀ i, i < 5 → i ≠ q → (∀ j, j ≤ 3 → wI w' (58 + 4 * i + j) = wI w (58 + 4 * i + j)) ∧ S'.1 i = S.1 i ∧ S'.2.1 i = S.2.1 i ∧ S'.2.2.1 i = S.2.2.1 i ∧ S'.2.2.2.1 i = S.2.2.2.1 i ∧ ∀ j, j < 24 → S'.2.2.2.2 (24 * i + j) = S.2.2.2.2 (24 * i + j)) → ∀ i, i < 5 → i ≠ q → (wI w' (58 + 4 * i) 0 = S'.1 i ∧ (S'.1 i = 0 ∨ S'.1 i = 1 ∨ S'.1 i = 2 ∨ S'.1 i = 3) ∧
  (S'.1 i = 1 → ∃ kd, kd ≤ 5 ∧ wI w' (58 + 4 * i + 1) 0 = nI kd ∧ S'.2.1 i = nI kd ∧ S'.2.2.1 i = woF kd (wI w' (58 + 4 * i + 1) 1)) ∧
  (S'.1 i = 2 → ∃ n, n ≤ 24 ∧ S'.2.2.2.1 i = nI n ∧ wI w' (58 + 4 * i + 2) 1 = nI n ∧ ∀ j, j < 24 → wI w' (58 + 4 * i + 2 + 1) j = S'.2.2.2.2 (24 * i + j)) ∧
  (S'.1 i = 3 → wI w' (58 + 4 * i) 3 = S'.2.1 i)) := by
      intro w' S' _ ho i hi hiq
      obtain ⟨o1, o2, o3, o4, o5, o6⟩ := ho i hi hiq
      obtain ⟨x1, x2, x3, x4, x5⟩ := hS i hi
      rw [show wI w' (58 + 4 * i) = wI w (58 + 4 * i) from o1 0 (by omega), o1 1 (by omega), o1 2 (by omega), show wI w' (58 + 4 * i + 2 + 1) = wI w (58 + 4 * i + 2 + 1) from o1 3 (by omega), o2, o3, o4, o5]
      exact ⟨x1, x2, x3, fun h => by
        obtain ⟨n, y1, y2, y3, y4⟩ := x4 h
        exact ⟨n, y1, y2, y3, fun j hj => by rw [o6 j hj]; exact y4 j hj⟩, x5⟩
    by_cases h1 : th.toInt = 1
    · have eth : th = 1 := by rw [eq_i]; exact h1
      have hv : isC s v := by rcases hth with h | h | h | h <;> first | omega | exact h.2
      obtain ⟨c, hc, ec⟩ := i_of (n := sN s 0) (x := v) hv.1 hv.2
      subst ec
      have hc6 : c < 6 := by omega
      have ecc : (nI c).toNatClampNeg = c := nI_clamp (by omega)
      obtain ⟨q0, q1, q2⟩ := hN.2.2.1 c hc6
      have hCk := hN.ck NA1 hw hC hc6
      have eF : F_lay S R s (nI q) th (nI c) = (S.1 q, (upd S.1 q th, upd S.2.1 q (s (10 + 3 * c + 0)), upd S.2.2.1 q (woF (sN s (10 + 3 * c + 0)) (s (10 + 3 * c + 1))), S.2.2.2.1, S.2.2.2.2)) := by
        rw [F_lay, if_neg (fun h => h hok), if_neg (by omega), eqc, ecc, if_pos h1, if_pos h1, if_neg (by omega), if_neg (by omega)]
      rw [eF] at hQ
      subst eth
      refine jr_iload_n dX8_lay_0 rfl ?_
      refine jr_iconst (5) dX8_lay_1 (by decide) ?_
      refine jc_Si (c_wi g _ _ _ 5 rfl) lkX8_76 rfl rfl (Nat.le_of_ble_eq_true rfl) (Nat.le_of_ble_eq_true rfl) dX8_lay_2 (fun r_2 w_2 h_2 => ?_)
      obtain ⟨rfl, rfl⟩ := h_2
      refine jr_if_eq 16 dX8_lay_5 (by decide) (fun c_5 => absurd c_5 (jb_1.mpr hk)) (fun c_5 => ?_)
      refine jr_iload_n dX8_lay_8 rfl ?_
      refine jr_iconst (4) dX8_lay_9 (by decide) ?_
      refine jc_Si (c_wi g _ _ _ 4 rfl) lkX8_76 rfl rfl (Nat.le_of_ble_eq_true rfl) (Nat.le_of_ble_eq_true rfl) dX8_lay_10 (fun r_10 w_10 h_10 => ?_)
      obtain ⟨rfl, rfl⟩ := h_10
      refine jr_if_ne 19 dX8_lay_13 (by decide) (fun c_13 => ?_) (fun c_13 => absurd c_13 (jb_1.mpr (by decide)))
      refine jr_iload_n dX8_lay_19 rfl ?_
      refine jr_iconst (1) dX8_lay_20 (by decide) ?_
      refine jr_icmp_ne 35 dX8_lay_21 (by decide) (fun c_21 => absurd rfl c_21) (fun c_21 => ?_)
      refine jr_aload_n dX8_lay_24 rfl ?_
      refine gfX8_12 1 dX8_lay_25 (hw.k rfl) (hw.f rfl) ?_
      refine jr_iload_n dX8_lay_28 rfl ?_
      refine jc_Vi (c_hasClock g _ hw 1 NA1 s hN h0 _) lkX8_89 (hw.k rfl) rfl rfl (Nat.le_of_ble_eq_true rfl) (Nat.le_of_ble_eq_true rfl) dX8_lay_29 (fun r_29 w_29 h_29 => ?_)
      obtain ⟨rfl, rfl⟩ := h_29
      refine jr_if_eq 48 dX8_lay_32 (by decide) (fun c_32 => absurd c_32 (jb_1.mpr hv)) (fun c_32 => ?_)
      refine jr_iload_n dX8_lay_35 rfl ?_
      refine jr_iconst (2) dX8_lay_36 (by decide) ?_
      refine jr_icmp_ne 51 dX8_lay_37 (by decide) (fun c_37 => ?_) (fun c_37 => absurd c_37 (by decide))
      refine jr_iload_n dX8_lay_51 rfl ?_
      refine jr_iconst (2) dX8_lay_52 (by decide) ?_
      refine jr_icmp_ne 72 dX8_lay_53 (by decide) (fun c_53 => ?_) (fun c_53 => absurd c_53 (by decide))
      refine jr_aload_n dX8_lay_72 rfl ?_
      refine gfX8_70 49 dX8_lay_73 (hw.k rfl) (hw.f rfl) ?_
      refine jr_iload_n dX8_lay_76 rfl ?_
      refine jr_aald q (hw.k rfl) (by decide) rfl ⟨hq, by decide⟩ (by rw [slf hw hq, jrf_s]) dX8_lay_77 ?_
      refine jr_astore_4 dX8_lay_78 (by decide) rfl ?_
      refine jr_aload dX8_lay_80 rfl ?_
      refine gfX8_295 dX8_lay_82 hCq.1 ?_
      rw [z1]
      refine jr_istore_5 dX8_lay_85 (by decide) rfl ?_
      refine jr_aload dX8_lay_87 rfl ?_
      refine jr_iload_n dX8_lay_89 rfl ?_
      refine pfX8_295 dX8_lay_90 hCq.1 ?_
      refine jr_iload_n dX8_lay_93 rfl ?_
      refine jr_iconst (1) dX8_lay_94 (by decide) ?_
      refine jr_icmp_ne 118 dX8_lay_95 (by decide) (fun c_95 => absurd rfl c_95) (fun c_95 => ?_)
      refine jr_aload dX8_lay_98 rfl ?_
      refine gfX8_298 ((58 + 4 * q) + 1) dX8_lay_100 hCq.1 hCq.2.1 ?_
      refine jr_aload_n dX8_lay_103 rfl ?_
      refine gfX8_12 1 dX8_lay_104 (hw.k rfl) (hw.f rfl) ?_
      refine gfX8_93 2 dX8_lay_107 (hw.k rfl) (hw.f rfl) ?_
      refine jr_iload_n dX8_lay_110 rfl ?_
      refine jr_aald c (hw.k rfl) (by decide) rfl ⟨hc6, by decide⟩ (by rw [show wF (sR w (58 + 4 * q) (upd (wI w (58 + 4 * q)) 0 1)) 2 c = some (1 + 5 + c) from rk1 hw hc6, jrf_s]) dX8_lay_111 ?_
      refine jc_Vv (c_cTake g _ (58 + 4 * q + 1) (1 + 5 + c) (by exact hCq.2.2.2.1) (by exact NA1.k hw hc6) (by omega)) lkX8_302 hCq.2.2.2.1 rfl rfl (Nat.le_of_ble_eq_true rfl) (Nat.le_of_ble_eq_true rfl) dX8_lay_112 (fun w_112 h_112 => ?_)
      refine jr_goto 146 dX8_lay_115 (by decide) ?_
      refine jr_iload dX8_lay_146 rfl ?_
      refine jr_iret rfl dX8_lay_148 ?_
      have hSm : Sm scSl w w_112 := by rw [h_112]; exact (Sm.sR (by unfold scSl; omega)).tr (Sm.sR (by unfold scSl; omega))
      refine hQ _ _ ⟨rfl, fun i hi => ?_, hSm⟩
      by_cases e : i = q
      · subst e
        rw [h_112, wI_sR_n _ (by omega), wI_sR_s, wI_sR_s, wI_sR_n _ (by omega)]
        refine ⟨by rw [pk_us]; exact pk_us.symm, Or.inr (Or.inl pk_us), fun _ => ⟨sN s (10 + 3 * c + 0), hCk.2.2.2.2.1, ?_, ?_, ?_⟩, fun h => ?_, fun h => ?_⟩
        · rw [pk_un (by decide), pk_un (by decide), pk_us, wI_sR_n _ (by omega)]; exact hCk.2.1
        · show upd S.2.1 i (s (10 + 3 * c + 0)) i = _
          rw [pk_us, ← q0]; exact hCk.2.1
        · show upd S.2.2.1 i _ i = _
          rw [pk_us, pk_un (by decide), pk_us, wI_sR_n _ (by omega), q1]
        · exfalso
          have h9 : upd S.1 i 1 i = 2 := h
          rw [pk_us] at h9
          exact absurd h9 (by decide)
        · exfalso
          have h9 : upd S.1 i 1 i = 3 := h
          rw [pk_us] at h9
          exact absurd h9 (by decide)
      · refine oth w_112 (upd S.1 q 1, upd S.2.1 q (s (10 + 3 * c + 0)), upd S.2.2.1 q (woF (sN s (10 + 3 * c + 0)) (s (10 + 3 * c + 1))), S.2.2.2.1, S.2.2.2.2) hSm (fun l hl hlq => ⟨fun j hj => ?_, pk_un hlq, pk_un hlq, pk_un hlq, rfl, fun _ _ => rfl⟩) i hi e
        rw [h_112, wI_sR_n _ (by omega), wI_sR_n _ (by omega)]
    · by_cases h2 : th.toInt = 2
      · have eth : th = 2 := by rw [eq_i]; exact h2
        have hv : isS v := by rcases hth with h | h | h | h <;> first | omega | exact h.2
        obtain ⟨c, hc, ec⟩ := i_of (n := 4) (x := v) hv.1 hv.2
        subst ec
        have ecc : (nI c).toNatClampNeg = c := nI_clamp (by omega)
        obtain ⟨y1, y2, y3⟩ := hR c hc
        obtain ⟨hso, n, hn, en⟩ := hO c hc
        have hCc := shc hw hc
        have hsoi : (R.1 c).toInt = -1 ∨ (R.1 c).toInt = 0 ∨ (R.1 c).toInt = 1 := by
          rcases hso with e | e | e <;> rw [e] <;> decide
        have eF : F_lay S R s (nI q) th (nI c) = if (R.1 c).toInt < 0 then (-1000000011, S) else (S.1 q, (upd S.1 q th, upd S.2.1 q (nI c), upd S.2.2.1 q 0, upd S.2.2.2.1 q (R.2.1 c), lyR S.2.2.2.2 R.2.2 q c 24)) := by
          rw [F_lay, if_neg (fun h => h hok), eqc, ecc]
          by_cases hz : (R.1 c).toInt < 0
          · rw [if_pos ⟨h2, hz⟩, if_pos hz]
          · rw [if_neg (fun h => hz h.2), if_neg hz, if_neg h1, if_neg h1, if_pos h2, if_pos h2]
        rw [eF] at hQ
        subst eth
        refine jr_iload_n dX8_lay_0 rfl ?_
        refine jr_iconst (5) dX8_lay_1 (by decide) ?_
        refine jc_Si (c_wi g _ _ _ 5 rfl) lkX8_76 rfl rfl (Nat.le_of_ble_eq_true rfl) (Nat.le_of_ble_eq_true rfl) dX8_lay_2 (fun r_2 w_2 h_2 => ?_)
        obtain ⟨rfl, rfl⟩ := h_2
        refine jr_if_eq 16 dX8_lay_5 (by decide) (fun c_5 => absurd c_5 (jb_1.mpr hk)) (fun c_5 => ?_)
        refine jr_iload_n dX8_lay_8 rfl ?_
        refine jr_iconst (4) dX8_lay_9 (by decide) ?_
        refine jc_Si (c_wi g _ _ _ 4 rfl) lkX8_76 rfl rfl (Nat.le_of_ble_eq_true rfl) (Nat.le_of_ble_eq_true rfl) dX8_lay_10 (fun r_10 w_10 h_10 => ?_)
        obtain ⟨rfl, rfl⟩ := h_10
        refine jr_if_ne 19 dX8_lay_13 (by decide) (fun c_13 => ?_) (fun c_13 => absurd c_13 (jb_1.mpr (by decide)))
        refine jr_iload_n dX8_lay_19 rfl ?_
        refine jr_iconst (1) dX8_lay_20 (by decide) ?_
        refine jr_icmp_ne 35 dX8_lay_21 (by decide) (fun c_21 => ?_) (fun c_21 => absurd c_21 (by decide))
        refine jr_iload_n dX8_lay_35 rfl ?_
        refine jr_iconst (2) dX8_lay_36 (by decide) ?_
        refine jr_icmp_ne 51 dX8_lay_37 (by decide) (fun c_37 => absurd rfl c_37) (fun c_37 => ?_)
        refine jr_iload_n dX8_lay_40 rfl ?_
        refine jr_iconst (4) dX8_lay_41 (by decide) ?_
        refine jc_Si (c_wi g _ _ _ 4 rfl) lkX8_76 rfl rfl (Nat.le_of_ble_eq_true rfl) (Nat.le_of_ble_eq_true rfl) dX8_lay_42 (fun r_42 w_42 h_42 => ?_)
        obtain ⟨rfl, rfl⟩ := h_42
        refine jr_if_ne 51 dX8_lay_45 (by decide) (fun c_45 => ?_) (fun c_45 => absurd c_45 (jb_1.mpr hv))
        refine jr_iload_n dX8_lay_51 rfl ?_
        refine jr_iconst (2) dX8_lay_52 (by decide) ?_
        refine jr_icmp_ne 72 dX8_lay_53 (by decide) (fun c_53 => absurd rfl c_53) (fun c_53 => ?_)
        refine jr_aload_n dX8_lay_56 rfl ?_
        refine gfX8_64 48 dX8_lay_57 (hw.k rfl) (hw.f rfl) ?_
        refine jr_iload_n dX8_lay_60 rfl ?_
        refine jr_aald c (hw.k rfl) (by decide) rfl ⟨hc, by decide⟩ (by rw [shf hw hc, jrf_s]) dX8_lay_61 ?_
        refine gfX8_209 dX8_lay_62 hCc.1 ?_
        rw [y1]
        refine jr_iconst (-1) dX8_lay_65 (by decide) ?_
        refine jr_icmp_ne 72 dX8_lay_66 (by decide) (fun c_66 => ?_) (fun c_66 => ?_)
        · simp only [lt_i, le_i, eq_i, Int32.reduceToInt] at c_66
          refine jr_aload_n dX8_lay_72 rfl ?_
          refine gfX8_70 49 dX8_lay_73 (hw.k rfl) (hw.f rfl) ?_
          refine jr_iload_n dX8_lay_76 rfl ?_
          refine jr_aald q (hw.k rfl) (by decide) rfl ⟨hq, by decide⟩ (by rw [slf hw hq, jrf_s]) dX8_lay_77 ?_
          refine jr_astore_4 dX8_lay_78 (by decide) rfl ?_
          refine jr_aload dX8_lay_80 rfl ?_
          refine gfX8_295 dX8_lay_82 hCq.1 ?_
          rw [z1]
          refine jr_istore_5 dX8_lay_85 (by decide) rfl ?_
          refine jr_aload dX8_lay_87 rfl ?_
          refine jr_iload_n dX8_lay_89 rfl ?_
          refine pfX8_295 dX8_lay_90 hCq.1 ?_
          refine jr_iload_n dX8_lay_93 rfl ?_
          refine jr_iconst (1) dX8_lay_94 (by decide) ?_
          refine jr_icmp_ne 118 dX8_lay_95 (by decide) (fun c_95 => ?_) (fun c_95 => absurd c_95 (by decide))
          refine jr_iload_n dX8_lay_118 rfl ?_
          refine jr_iconst (2) dX8_lay_119 (by decide) ?_
          refine jr_icmp_ne 140 dX8_lay_120 (by decide) (fun c_120 => absurd rfl c_120) (fun c_120 => ?_)
          refine jr_aload dX8_lay_123 rfl ?_
          refine gfX8_305 ((58 + 4 * q) + 2) dX8_lay_125 hCq.1 hCq.2.2.1 ?_
          refine jr_aload_n dX8_lay_128 rfl ?_
          refine gfX8_64 48 dX8_lay_129 (hw.k rfl) (hw.f rfl) ?_
          refine jr_iload_n dX8_lay_132 rfl ?_
          refine jr_aald c (hw.k rfl) (by decide) rfl ⟨hc, by decide⟩ (by rw [show wF (sR w (58 + 4 * q) (upd (wI w (58 + 4 * q)) 0 2)) 48 c = some (50 + 2 * c) from shf hw hc, jrf_s]) dX8_lay_133 ?_
          refine jc_Vv (c_shTake g _ (58 + 4 * q + 2) (50 + 2 * c) (by exact hCq.2.2.2.2) (by exact hCc) (by omega)) lkX8_309 hCq.2.2.2.2.1 rfl rfl (Nat.le_of_ble_eq_true rfl) (Nat.le_of_ble_eq_true rfl) dX8_lay_134 (fun w_134 h_134 => ?_)
          refine jr_goto 146 dX8_lay_137 (by decide) ?_
          refine jr_iload dX8_lay_146 rfl ?_
          refine jr_iret rfl dX8_lay_148 ?_
          rw [if_neg (by omega)] at hQ
          have hSm : Sm scSl w w_134 := by rw [h_134]; exact ((Sm.sR (by unfold scSl; omega)).tr (Sm.sR (by unfold scSl; omega))).tr (Sm.sR (by unfold scSl; omega))
          refine hQ _ _ ⟨rfl, fun i hi => ?_, hSm⟩
          by_cases e : i = q
          · subst e
            have r0 : wI w_134 (58 + 4 * i) = upd (wI w (58 + 4 * i)) 0 2 := by rw [h_134, wI_sR_n _ (by omega), wI_sR_n _ (by omega), wI_sR_s]
            have r2 : wI w_134 (58 + 4 * i + 2) 1 = nI n := by rw [h_134, wI_sR_n _ (by omega), wI_sR_s, pk_us, wI_sR_n _ (by omega), y2, en]
            have r3 : ∀ j, j < 24 → wI w_134 (58 + 4 * i + 2 + 1) j = R.2.2 (24 * c + j) := fun j hj => by rw [h_134, wI_sR_s, pk_cpy_in (by omega) (by omega), wI_sR_n _ (by omega), show 0 + (j - 0) = j by omega, y3 j hj]
            rw [r0]
            refine ⟨by rw [pk_us]; exact pk_us.symm, Or.inr (Or.inr (Or.inl pk_us)), fun h => ?_, fun _ => ⟨n, hn, ?_, r2, fun j hj => ?_⟩, fun h => ?_⟩
            · exfalso
              have h9 : upd S.1 i 2 i = 1 := h
              rw [pk_us] at h9
              exact absurd h9 (by decide)
            · show upd S.2.2.2.1 i (R.2.1 c) i = nI n
              rw [pk_us, en]
            · show _ = lyR S.2.2.2.2 R.2.2 i c 24 (24 * i + j)
              rw [r3 j hj, lyR, if_pos (by omega), show 24 * i + j - 24 * i = j by omega]
            · exfalso
              have h9 : upd S.1 i 2 i = 3 := h
              rw [pk_us] at h9
              exact absurd h9 (by decide)
          · refine oth _ _ hSm (fun l hl hlq => ⟨fun j hj => ?_, pk_un hlq, pk_un hlq, pk_un hlq, pk_un hlq, fun j hj => ?_⟩) i hi e
            · rw [h_134, wI_sR_n _ (by omega), wI_sR_n _ (by omega), wI_sR_n _ (by omega)]
            · show lyR S.2.2.2.2 R.2.2 q c 24 (24 * l + j) = _
              rw [lyR, if_neg (by omega)]
        · simp only [lt_i, le_i, eq_i, Int32.reduceToInt] at c_66
          refine jr_ldc (-1000000011) ckX8_212 dX8_lay_69 ?_
          refine jr_iret rfl dX8_lay_71 ?_
          exact hQ _ _ ⟨by rw [if_pos (by omega)], by rw [if_pos (by omega)]; exact ⟨hS, Sm.rf⟩⟩
      · have h03 : th.toInt = 0 ∨ th.toInt = 3 := by omega
        have eF : F_lay S R s (nI q) th v = (S.1 q, (upd S.1 q th, upd S.2.1 q v, upd S.2.2.1 q 0, S.2.2.2.1, S.2.2.2.2)) := by
          rw [F_lay, if_neg (fun h => h hok), if_neg (by omega), eqc, if_neg h1, if_neg h1, if_neg h2, if_neg h2]
        rw [eF] at hQ
        refine jr_iload_n dX8_lay_0 rfl ?_
        refine jr_iconst (5) dX8_lay_1 (by decide) ?_
        refine jc_Si (c_wi g _ _ _ 5 rfl) lkX8_76 rfl rfl (Nat.le_of_ble_eq_true rfl) (Nat.le_of_ble_eq_true rfl) dX8_lay_2 (fun r_2 w_2 h_2 => ?_)
        obtain ⟨rfl, rfl⟩ := h_2
        refine jr_if_eq 16 dX8_lay_5 (by decide) (fun c_5 => absurd c_5 (jb_1.mpr hk)) (fun c_5 => ?_)
        refine jr_iload_n dX8_lay_8 rfl ?_
        refine jr_iconst (4) dX8_lay_9 (by decide) ?_
        refine jc_Si (c_wi g _ _ _ 4 rfl) lkX8_76 rfl rfl (Nat.le_of_ble_eq_true rfl) (Nat.le_of_ble_eq_true rfl) dX8_lay_10 (fun r_10 w_10 h_10 => ?_)
        obtain ⟨rfl, rfl⟩ := h_10
        refine jr_if_ne 19 dX8_lay_13 (by decide) (fun c_13 => ?_) (fun c_13 => absurd c_13 (jb_1.mpr (by omega)))
        refine jr_iload_n dX8_lay_19 rfl ?_
        refine jr_iconst (1) dX8_lay_20 (by decide) ?_
        refine jr_icmp_ne 35 dX8_lay_21 (by decide) (fun c_21 => ?_) (fun c_21 => absurd c_21 (fun e => h1 (by rw [e]; rfl)))
        refine jr_iload_n dX8_lay_35 rfl ?_
        refine jr_iconst (2) dX8_lay_36 (by decide) ?_
        refine jr_icmp_ne 51 dX8_lay_37 (by decide) (fun c_37 => ?_) (fun c_37 => absurd c_37 (fun e => h2 (by rw [e]; rfl)))
        refine jr_iload_n dX8_lay_51 rfl ?_
        refine jr_iconst (2) dX8_lay_52 (by decide) ?_
        refine jr_icmp_ne 72 dX8_lay_53 (by decide) (fun c_53 => ?_) (fun c_53 => absurd c_53 (fun e => h2 (by rw [e]; rfl)))
        refine jr_aload_n dX8_lay_72 rfl ?_
        refine gfX8_70 49 dX8_lay_73 (hw.k rfl) (hw.f rfl) ?_
        refine jr_iload_n dX8_lay_76 rfl ?_
        refine jr_aald q (hw.k rfl) (by decide) rfl ⟨hq, by decide⟩ (by rw [slf hw hq, jrf_s]) dX8_lay_77 ?_
        refine jr_astore_4 dX8_lay_78 (by decide) rfl ?_
        refine jr_aload dX8_lay_80 rfl ?_
        refine gfX8_295 dX8_lay_82 hCq.1 ?_
        rw [z1]
        refine jr_istore_5 dX8_lay_85 (by decide) rfl ?_
        refine jr_aload dX8_lay_87 rfl ?_
        refine jr_iload_n dX8_lay_89 rfl ?_
        refine pfX8_295 dX8_lay_90 hCq.1 ?_
        refine jr_iload_n dX8_lay_93 rfl ?_
        refine jr_iconst (1) dX8_lay_94 (by decide) ?_
        refine jr_icmp_ne 118 dX8_lay_95 (by decide) (fun c_95 => ?_) (fun c_95 => absurd c_95 (fun e => h1 (by rw [e]; rfl)))
        refine jr_iload_n dX8_lay_118 rfl ?_
        refine jr_iconst (2) dX8_lay_119 (by decide) ?_
        refine jr_icmp_ne 140 dX8_lay_120 (by decide) (fun c_120 => ?_) (fun c_120 => absurd c_120 (fun e => h2 (by rw [e]; rfl)))
        refine jr_aload dX8_lay_140 rfl ?_
        refine jr_iload_n dX8_lay_142 rfl ?_
        refine pfX8_312 dX8_lay_143 hCq.1 ?_
        rw [sR_sR, wI_sR_s]
        refine jr_iload dX8_lay_146 rfl ?_
        refine jr_iret rfl dX8_lay_148 ?_
        have hSm : Sm scSl w (sR w (58 + 4 * q) (upd (upd (wI w (58 + 4 * q)) 0 th) 3 v)) := Sm.sR (by unfold scSl; omega)
        refine hQ _ _ ⟨rfl, fun i hi => ?_, hSm⟩
        by_cases e : i = q
        · subst e
          rw [wI_sR_s]
          refine ⟨by rw [pk_un (by decide), pk_us]; exact pk_us.symm, ?_, fun h => ?_, fun h => ?_, fun h => ?_⟩
          · show upd S.1 i th i = 0 ∨ upd S.1 i th i = 1 ∨ upd S.1 i th i = 2 ∨ upd S.1 i th i = 3
            rw [pk_us]
            rcases h03 with h | h
            · exact Or.inl (by rw [eq_i]; exact h)
            · exact Or.inr (Or.inr (Or.inr (by rw [eq_i]; exact h)))
          · exfalso
            have h9 : upd S.1 i th i = 1 := h
            rw [pk_us] at h9
            exact h1 (by rw [h9]; rfl)
          · exfalso
            have h9 : upd S.1 i th i = 2 := h
            rw [pk_us] at h9
            exact h2 (by rw [h9]; rfl)
          · show _ = upd S.2.1 i v i
            rw [pk_us, pk_us]
        · refine oth _ (upd S.1 q th, upd S.2.1 q v, upd S.2.2.1 q 0, S.2.2.2.1, S.2.2.2.2) hSm (fun l hl hlq => ⟨fun j hj => ?_, pk_un hlq, pk_un hlq, pk_un hlq, rfl, fun _ _ => rfl⟩) i hi e
          rw [wI_sR_n _ (by omega)]
  · have bad : Q (some (.int (-1000000001))) w := hQ _ _ ⟨by rw [F_lay, if_pos hok], by rw [F_lay, if_pos hok]; exact ⟨hS, Sm.rf⟩⟩
    refine jr_iload_n dX8_lay_0 rfl ?_
    refine jr_iconst (5) dX8_lay_1 (by decide) ?_
    refine jc_Si (c_wi g _ _ _ 5 rfl) lkX8_76 rfl rfl (Nat.le_of_ble_eq_true rfl) (Nat.le_of_ble_eq_true rfl) dX8_lay_2 (fun r_2 w_2 h_2 => ?_)
    obtain ⟨rfl, rfl⟩ := h_2
    refine jr_if_eq 16 dX8_lay_5 (by decide) (fun c_5 => ?_) (fun c_5 => ?_)
    · rw [jb_0] at c_5
      refine jr_ldc (-1000000001) ckX8_80 dX8_lay_16 ?_
      refine jr_iret rfl dX8_lay_18 ?_
      exact bad
    · rw [jb_1] at c_5
      refine jr_iload_n dX8_lay_8 rfl ?_
      refine jr_iconst (4) dX8_lay_9 (by decide) ?_
      refine jc_Si (c_wi g _ _ _ 4 rfl) lkX8_76 rfl rfl (Nat.le_of_ble_eq_true rfl) (Nat.le_of_ble_eq_true rfl) dX8_lay_10 (fun r_10 w_10 h_10 => ?_)
      obtain ⟨rfl, rfl⟩ := h_10
      refine jr_if_ne 19 dX8_lay_13 (by decide) (fun c_13 => ?_) (fun c_13 => ?_)
      · rw [jb_1] at c_13
        refine jr_iload_n dX8_lay_19 rfl ?_
        refine jr_iconst (1) dX8_lay_20 (by decide) ?_
        refine jr_icmp_ne 35 dX8_lay_21 (by decide) (fun c_21 => ?_) (fun c_21 => ?_)
        · simp only [lt_i, le_i, eq_i, Int32.reduceToInt] at c_21
          refine jr_iload_n dX8_lay_35 rfl ?_
          refine jr_iconst (2) dX8_lay_36 (by decide) ?_
          refine jr_icmp_ne 51 dX8_lay_37 (by decide) (fun c_37 => ?_) (fun c_37 => ?_)
          · simp only [lt_i, le_i, eq_i, Int32.reduceToInt] at c_37
            exfalso
            refine hok ⟨c_5, ?_⟩
            first | exact Or.inr (Or.inr (Or.inl ⟨c_21, c_32⟩)) | exact Or.inr (Or.inr (Or.inr ⟨c_37, c_45⟩)) | omega
          · simp only [lt_i, le_i, eq_i, Int32.reduceToInt] at c_37
            refine jr_iload_n dX8_lay_40 rfl ?_
            refine jr_iconst (4) dX8_lay_41 (by decide) ?_
            refine jc_Si (c_wi g _ _ _ 4 rfl) lkX8_76 rfl rfl (Nat.le_of_ble_eq_true rfl) (Nat.le_of_ble_eq_true rfl) dX8_lay_42 (fun r_42 w_42 h_42 => ?_)
            obtain ⟨rfl, rfl⟩ := h_42
            refine jr_if_ne 51 dX8_lay_45 (by decide) (fun c_45 => ?_) (fun c_45 => ?_)
            · rw [jb_1] at c_45
              exfalso
              refine hok ⟨c_5, ?_⟩
              first | exact Or.inr (Or.inr (Or.inl ⟨c_21, c_32⟩)) | exact Or.inr (Or.inr (Or.inr ⟨c_37, c_45⟩)) | omega
            · rw [jb_0] at c_45
              refine jr_ldc (-1000000001) ckX8_80 dX8_lay_48 ?_
              refine jr_iret rfl dX8_lay_50 ?_
              exact bad
        · simp only [lt_i, le_i, eq_i, Int32.reduceToInt] at c_21
          refine jr_aload_n dX8_lay_24 rfl ?_
          refine gfX8_12 1 dX8_lay_25 (hw.k rfl) (hw.f rfl) ?_
          refine jr_iload_n dX8_lay_28 rfl ?_
          refine jc_Vi (c_hasClock g _ hw 1 NA1 s hN h0 _) lkX8_89 (hw.k rfl) rfl rfl (Nat.le_of_ble_eq_true rfl) (Nat.le_of_ble_eq_true rfl) dX8_lay_29 (fun r_29 w_29 h_29 => ?_)
          obtain ⟨rfl, rfl⟩ := h_29
          refine jr_if_eq 48 dX8_lay_32 (by decide) (fun c_32 => ?_) (fun c_32 => ?_)
          · rw [jb_0] at c_32
            refine jr_ldc (-1000000001) ckX8_80 dX8_lay_48 ?_
            refine jr_iret rfl dX8_lay_50 ?_
            exact bad
          · rw [jb_1] at c_32
            refine jr_iload_n dX8_lay_35 rfl ?_
            refine jr_iconst (2) dX8_lay_36 (by decide) ?_
            refine jr_icmp_ne 51 dX8_lay_37 (by decide) (fun c_37 => ?_) (fun c_37 => ?_)
            · simp only [lt_i, le_i, eq_i, Int32.reduceToInt] at c_37
              exfalso
              refine hok ⟨c_5, ?_⟩
              first | exact Or.inr (Or.inr (Or.inl ⟨c_21, c_32⟩)) | exact Or.inr (Or.inr (Or.inr ⟨c_37, c_45⟩)) | omega
            · simp only [lt_i, le_i, eq_i, Int32.reduceToInt] at c_37
              refine jr_iload_n dX8_lay_40 rfl ?_
              refine jr_iconst (4) dX8_lay_41 (by decide) ?_
              refine jc_Si (c_wi g _ _ _ 4 rfl) lkX8_76 rfl rfl (Nat.le_of_ble_eq_true rfl) (Nat.le_of_ble_eq_true rfl) dX8_lay_42 (fun r_42 w_42 h_42 => ?_)
              obtain ⟨rfl, rfl⟩ := h_42
              refine jr_if_ne 51 dX8_lay_45 (by decide) (fun c_45 => ?_) (fun c_45 => ?_)
              · rw [jb_1] at c_45
                exfalso
                refine hok ⟨c_5, ?_⟩
                first | exact Or.inr (Or.inr (Or.inl ⟨c_21, c_32⟩)) | exact Or.inr (Or.inr (Or.inr ⟨c_37, c_45⟩)) | omega
              · rw [jb_0] at c_45
                refine jr_ldc (-1000000001) ckX8_80 dX8_lay_48 ?_
                refine jr_iret rfl dX8_lay_50 ?_
                exact bad
      · rw [jb_0] at c_13
        refine jr_ldc (-1000000001) ckX8_80 dX8_lay_16 ?_
        refine jr_iret rfl dX8_lay_18 ?_
        exact bad
