-- the reference: texts, strokes
theorem c_isOf (g : Cx) (w : Wd) (o k : Int32) : CI g yX9_isOf cX9_isOf 2 (some .boolean) 1 0 0 [.int o, .int k] w (fun r w' => r = jb (o.toInt = k.toInt ∨ k.toInt = 0 ∨ (k.toInt = 1 ∧ o.toInt = 3) ∨ (k.toInt = 2 ∧ o.toInt = 4)) ∧ w = w') := by
  refine CI.of (own := RX9) (nm := "isOf") (lv := [some (.int o), some (.int k)]) (by decide) rfl rfl (Nat.le_of_ble_eq_true rfl) rfl (fun Q hQ => ?_)
  refine jr_iload_n dX9_isOf_0 rfl ?_
  refine jr_iload_n dX9_isOf_1 rfl ?_
  refine jr_icmp_eq 29 dX9_isOf_2 (by decide) (fun c_2 => ?_) (fun c_2 => ?_)
  · simp only [lt_i, le_i, eq_i, Int32.reduceToInt] at c_2
    refine jr_iconst (1) dX9_isOf_29 (by decide) ?_
    refine jr_goto 34 dX9_isOf_30 (by decide) ?_
    refine jr_zret rfl (by decide) dX9_isOf_34 ?_
    first | exact hQ _ _ ⟨(jb_f (by omega)).symm, rfl⟩ | exact hQ _ _ ⟨(jb_t (by omega)).symm, rfl⟩
  · simp only [lt_i, le_i, eq_i, Int32.reduceToInt] at c_2
    refine jr_iload_n dX9_isOf_5 rfl ?_
    refine jr_if_eq 29 dX9_isOf_6 (by decide) (fun c_6 => ?_) (fun c_6 => ?_)
    · simp only [lt_i, le_i, eq_i, Int32.reduceToInt] at c_6
      refine jr_iconst (1) dX9_isOf_29 (by decide) ?_
      refine jr_goto 34 dX9_isOf_30 (by decide) ?_
      refine jr_zret rfl (by decide) dX9_isOf_34 ?_
      first | exact hQ _ _ ⟨(jb_f (by omega)).symm, rfl⟩ | exact hQ _ _ ⟨(jb_t (by omega)).symm, rfl⟩
    · simp only [lt_i, le_i, eq_i, Int32.reduceToInt] at c_6
      refine jr_iload_n dX9_isOf_9 rfl ?_
      refine jr_iconst (1) dX9_isOf_10 (by decide) ?_
      refine jr_icmp_ne 19 dX9_isOf_11 (by decide) (fun c_11 => ?_) (fun c_11 => ?_)
      · simp only [lt_i, le_i, eq_i, Int32.reduceToInt] at c_11
        refine jr_iload_n dX9_isOf_19 rfl ?_
        refine jr_iconst (2) dX9_isOf_20 (by decide) ?_
        refine jr_icmp_ne 33 dX9_isOf_21 (by decide) (fun c_21 => ?_) (fun c_21 => ?_)
        · simp only [lt_i, le_i, eq_i, Int32.reduceToInt] at c_21
          refine jr_iconst (0) dX9_isOf_33 (by decide) ?_
          refine jr_zret rfl (by decide) dX9_isOf_34 ?_
          first | exact hQ _ _ ⟨(jb_f (by omega)).symm, rfl⟩ | exact hQ _ _ ⟨(jb_t (by omega)).symm, rfl⟩
        · simp only [lt_i, le_i, eq_i, Int32.reduceToInt] at c_21
          refine jr_iload_n dX9_isOf_24 rfl ?_
          refine jr_iconst (4) dX9_isOf_25 (by decide) ?_
          refine jr_icmp_ne 33 dX9_isOf_26 (by decide) (fun c_26 => ?_) (fun c_26 => ?_)
          · simp only [lt_i, le_i, eq_i, Int32.reduceToInt] at c_26
            refine jr_iconst (0) dX9_isOf_33 (by decide) ?_
            refine jr_zret rfl (by decide) dX9_isOf_34 ?_
            first | exact hQ _ _ ⟨(jb_f (by omega)).symm, rfl⟩ | exact hQ _ _ ⟨(jb_t (by omega)).symm, rfl⟩
          · simp only [lt_i, le_i, eq_i, Int32.reduceToInt] at c_26
            refine jr_iconst (1) dX9_isOf_29 (by decide) ?_
            refine jr_goto 34 dX9_isOf_30 (by decide) ?_
            refine jr_zret rfl (by decide) dX9_isOf_34 ?_
            first | exact hQ _ _ ⟨(jb_f (by omega)).symm, rfl⟩ | exact hQ _ _ ⟨(jb_t (by omega)).symm, rfl⟩
      · simp only [lt_i, le_i, eq_i, Int32.reduceToInt] at c_11
        refine jr_iload_n dX9_isOf_14 rfl ?_
        refine jr_iconst (3) dX9_isOf_15 (by decide) ?_
        refine jr_icmp_eq 29 dX9_isOf_16 (by decide) (fun c_16 => ?_) (fun c_16 => ?_)
        · simp only [lt_i, le_i, eq_i, Int32.reduceToInt] at c_16
          refine jr_iconst (1) dX9_isOf_29 (by decide) ?_
          refine jr_goto 34 dX9_isOf_30 (by decide) ?_
          refine jr_zret rfl (by decide) dX9_isOf_34 ?_
          first | exact hQ _ _ ⟨(jb_f (by omega)).symm, rfl⟩ | exact hQ _ _ ⟨(jb_t (by omega)).symm, rfl⟩
        · simp only [lt_i, le_i, eq_i, Int32.reduceToInt] at c_16
          refine jr_iload_n dX9_isOf_19 rfl ?_
          refine jr_iconst (2) dX9_isOf_20 (by decide) ?_
          refine jr_icmp_ne 33 dX9_isOf_21 (by decide) (fun c_21 => ?_) (fun c_21 => ?_)
          · simp only [lt_i, le_i, eq_i, Int32.reduceToInt] at c_21
            refine jr_iconst (0) dX9_isOf_33 (by decide) ?_
            refine jr_zret rfl (by decide) dX9_isOf_34 ?_
            first | exact hQ _ _ ⟨(jb_f (by omega)).symm, rfl⟩ | exact hQ _ _ ⟨(jb_t (by omega)).symm, rfl⟩
          · simp only [lt_i, le_i, eq_i, Int32.reduceToInt] at c_21
            refine jr_iload_n dX9_isOf_24 rfl ?_
            refine jr_iconst (4) dX9_isOf_25 (by decide) ?_
            refine jr_icmp_ne 33 dX9_isOf_26 (by decide) (fun c_26 => ?_) (fun c_26 => ?_)
            · simp only [lt_i, le_i, eq_i, Int32.reduceToInt] at c_26
              refine jr_iconst (0) dX9_isOf_33 (by decide) ?_
              refine jr_zret rfl (by decide) dX9_isOf_34 ?_
              first | exact hQ _ _ ⟨(jb_f (by omega)).symm, rfl⟩ | exact hQ _ _ ⟨(jb_t (by omega)).symm, rfl⟩
            · simp only [lt_i, le_i, eq_i, Int32.reduceToInt] at c_26
              refine jr_iconst (1) dX9_isOf_29 (by decide) ?_
              refine jr_goto 34 dX9_isOf_30 (by decide) ?_
              refine jr_zret rfl (by decide) dX9_isOf_34 ?_
              first | exact hQ _ _ ⟨(jb_f (by omega)).symm, rfl⟩ | exact hQ _ _ ⟨(jb_t (by omega)).symm, rfl⟩
def comesF (s : Nat → Int32) (n : Nat) (kd o tn : Int32) : Nat → Int32 := upd (upd (upd (upd s 0 (nI (n + 1))) (10 + 3 * n + 0) kd) (10 + 3 * n + 1) o) (10 + 3 * n + 2) tn
theorem c_comes (g : Cx) (w : Wd) (hw : Wf w) (n : Nat) (hn : n < 6) (h0 : wI w 79 0 = nI n) (kd o tn : Int32) : CV g yX9_comes cX9_comes 5 2 0 0 [.ref (gb g + 78), .int kd, .int o, .int tn] w (fun w' => w' = sR w 79 (comesF (wI w 79) n kd o tn)) := by
  refine CV.of (own := RX9) (nm := "comes") (lv := [some (.ref (gb g + 78)), some (.int kd), some (.int o), some (.int tn), none]) (by decide) rfl rfl (Nat.le_of_ble_eq_true rfl) rfl (fun Q hQ => ?_)
  refine jr_aload_n dX9_comes_0 rfl ?_
  refine gfX9_7 79 dX9_comes_1 (hw.k rfl) (hw.f rfl) ?_
  refine jr_iconst (0) dX9_comes_4 (by decide) ?_
  refine jr_iald 0 (hw.k rfl) rfl (by decide) dX9_comes_5 ?_
  rw [h0]
  refine jr_istore_4 dX9_comes_6 (by decide) rfl ?_
  refine jr_aload_n dX9_comes_8 rfl ?_
  refine gfX9_7 79 dX9_comes_9 (hw.k rfl) (hw.f rfl) ?_
  refine jr_iconst (0) dX9_comes_12 (by decide) ?_
  refine jr_dup2 dX9_comes_13 rfl rfl ?_
  refine jr_iald 0 (hw.k rfl) rfl (by decide) dX9_comes_14 ?_
  refine jr_iconst (1) dX9_comes_15 (by decide) ?_
  refine jr_iadd dX9_comes_16 ?_
  rw [h0, nI_1]
  refine jr_iast 0 (hw.k rfl) rfl (by decide) dX9_comes_17 ?_
  refine jr_aload_n dX9_comes_18 rfl ?_
  refine jr_iload dX9_comes_19 rfl ?_
  refine jr_iconst (0) dX9_comes_21 (by decide) ?_
  refine jr_iload_n dX9_comes_22 rfl ?_
  refine jc_Vv (c_sets g _ (by exact hw) n 0 kd hn (by decide)) lkX9_73 (hw.k rfl) rfl rfl (Nat.le_of_ble_eq_true rfl) (Nat.le_of_ble_eq_true rfl) dX9_comes_23 (fun w_23 h_23 => ?_)
  obtain rfl := h_23
  refine jr_aload_n dX9_comes_26 rfl ?_
  refine jr_iload dX9_comes_27 rfl ?_
  refine jr_iconst (1) dX9_comes_29 (by decide) ?_
  refine jr_iload_n dX9_comes_30 rfl ?_
  refine jc_Vv (c_sets g _ (by exact hw) n 1 o hn (by decide)) lkX9_73 (hw.k rfl) rfl rfl (Nat.le_of_ble_eq_true rfl) (Nat.le_of_ble_eq_true rfl) dX9_comes_31 (fun w_31 h_31 => ?_)
  obtain rfl := h_31
  refine jr_aload_n dX9_comes_34 rfl ?_
  refine jr_iload dX9_comes_35 rfl ?_
  refine jr_iconst (2) dX9_comes_37 (by decide) ?_
  refine jr_iload_n dX9_comes_38 rfl ?_
  refine jc_Vv (c_sets g _ (by exact hw) n 2 tn hn (by decide)) lkX9_73 (hw.k rfl) rfl rfl (Nat.le_of_ble_eq_true rfl) (Nat.le_of_ble_eq_true rfl) dX9_comes_39 (fun w_39 h_39 => ?_)
  obtain rfl := h_39
  refine jr_vret rfl dX9_comes_42 ?_
  refine hQ _ ?_
  simp only [wI_sR_s, sR_sR]
  rfl
theorem c_counts (g : Cx) (w : Wd) (hw : Wf w) (n : Nat) (hn : n ≤ 14) (h1 : wI w 79 1 = nI n) (key : Int32) : CI g yX9_counts cX9_counts 4 (some .int) 2 0 0 [.ref (gb g + 78), .int key] w (fun r w' => r = cntF (wI w 79) key n ∧ w = w') := by
  refine CI.of (own := RX9) (nm := "counts") (lv := [some (.ref (gb g + 78)), some (.int key), none, none]) (by decide) rfl rfl (Nat.le_of_ble_eq_true rfl) rfl (fun Q hQ => ?_)
  have L : ∀ (f t : Nat), f + t = n → RR g RX9 cX9_counts 4 (some .int) "counts" 2 0 0 0 0 4 [some (.ref (gb g + 78)), some (.int key), some (.int (cntF (wI w 79) key t)), some (.int (nI t))] [] w Q := by
    intro f
    induction f with
    | zero =>
      intro t ht
      have e : t = n := by omega
      subst e
      refine jr_iload_n dX9_counts_4 rfl ?_
      refine jr_aload_n dX9_counts_5 rfl ?_
      refine gfX9_7 79 dX9_counts_6 (hw.k rfl) (hw.f rfl) ?_
      refine jr_iconst (1) dX9_counts_9 (by decide) ?_
      refine jr_iald 1 (hw.k rfl) rfl (by decide) dX9_counts_10 ?_
      refine jr_icmp_ge 40 dX9_counts_11 (by decide) (fun c_11 => ?_) (fun c_11 => absurd (by rw [h1]; exact nI_le (Nat.le_refl _) (by omega)) c_11)
      refine jr_iload_n dX9_counts_40 rfl ?_
      refine jr_iret rfl dX9_counts_41 ?_
      exact hQ _ _ ⟨rfl, rfl⟩
    | succ f ih =>
      intro t ht
      have h9 := ih (t + 1) (by omega)
      refine jr_iload_n dX9_counts_4 rfl ?_
      refine jr_aload_n dX9_counts_5 rfl ?_
      refine gfX9_7 79 dX9_counts_6 (hw.k rfl) (hw.f rfl) ?_
      refine jr_iconst (1) dX9_counts_9 (by decide) ?_
      refine jr_iald 1 (hw.k rfl) rfl (by decide) dX9_counts_10 ?_
      refine jr_icmp_ge 40 dX9_counts_11 (by decide) (fun c_11 => absurd c_11 (by rw [h1]; exact nI_ge (by omega) (by omega))) (fun c_11 => ?_)
      refine jr_aload_n dX9_counts_14 rfl ?_
      refine gfX9_7 79 dX9_counts_15 (hw.k rfl) (hw.f rfl) ?_
      refine jr_aload_n dX9_counts_18 rfl ?_
      refine jr_iload_n dX9_counts_19 rfl ?_
      refine jc_Vi (c_mtextAt g _ t) lkX9_277 (hw.k rfl) rfl rfl (Nat.le_of_ble_eq_true rfl) (Nat.le_of_ble_eq_true rfl) dX9_counts_20 (fun r_20 w_20 h_20 => ?_)
      obtain ⟨rfl, rfl⟩ := h_20
      refine jr_iald (40 + 200 * t) (hw.k rfl) rfl ⟨by omega, by decide⟩ dX9_counts_23 ?_
      refine jr_iload_n dX9_counts_24 rfl ?_
      refine jr_icmp_ne 32 dX9_counts_25 (by decide) (fun c_25 => ?_) (fun c_25 => ?_)
      · refine jr_iload_n dX9_counts_32 rfl ?_
        refine jr_istore_2 dX9_counts_33 (by decide) rfl ?_
        refine jr_iinc_3 (nI (t + 1)) dX9_counts_34 (inc1 t) (by decide) rfl ?_
        refine jr_goto 4 dX9_counts_37 (by decide) ?_
        simp only [cntF] at h9
        first | (rw [if_pos c_25] at h9; exact h9) | (rw [if_neg c_25] at h9; exact h9)
      · refine jr_iload_n dX9_counts_28 rfl ?_
        refine jr_goto 33 dX9_counts_29 (by decide) ?_
        refine jr_istore_2 dX9_counts_33 (by decide) rfl ?_
        refine jr_iinc_3 (nI (t + 1)) dX9_counts_34 (inc1 t) (by decide) rfl ?_
        refine jr_goto 4 dX9_counts_37 (by decide) ?_
        simp only [cntF] at h9
        first | (rw [if_pos c_25] at h9; exact h9) | (rw [if_neg c_25] at h9; exact h9)
  refine jr_iconst (-1) dX9_counts_0 (by decide) ?_
  refine jr_istore_2 dX9_counts_1 (by decide) rfl ?_
  refine jr_iconst (0) dX9_counts_2 (by decide) ?_
  refine jr_istore_3 dX9_counts_3 (by decide) rfl ?_
  exact L n 0 (by omega)
theorem c_mjoined (g : Cx) (w : Wd) (c x y : Int32) : CI g yX9_joined cX9_joined 3 (some .int) 1 0 0 [.int c, .int x, .int y] w (fun r w' => r = jnF c x y ∧ w = w') := by
  refine CI.of (own := RX9) (nm := "joined") (lv := [some (.int c), some (.int x), some (.int y)]) (by decide) rfl rfl (Nat.le_of_ble_eq_true rfl) rfl (fun Q hQ => ?_)
  refine jr_iload_n dX9_joined_0 rfl ?_
  refine swX9_joined_1 (fun c_1 => ?_) (fun c_1 => ?_) (fun c_1 => ?_) (fun c_1 => ?_) (fun c_1 => ?_) (fun c_1 => ?_) (fun c_1 => ?_) (fun c_1 => ?_) (fun c_1 => ?_)
  · refine jr_iload_n dX9_joined_183 rfl ?_
    refine jr_if_eq 195 dX9_joined_184 (by decide) (fun c_184 => ?_) (fun c_184 => ?_)
    · refine jr_iconst (0) dX9_joined_195 (by decide) ?_
      refine jr_iret rfl dX9_joined_196 ?_
      refine hQ _ _ ⟨?_, rfl⟩
      simp only [jnF, c_1, ne_eq, Int.reduceEq, if_true, if_false]
      first | done | (rw [if_pos c_129]; done) | (rw [if_neg c_129, c_138, div_m1]; done) | (rw [if_neg c_129]; done) | exact jb_f' (fun h => h.1 c_184) | exact jb_f' (fun h => h.2 c_188) | exact jb_t' ⟨c_184, c_188⟩ | exact jb_t' (Or.inl c_198) | exact jb_t' (Or.inr c_202) | exact jb_f' (fun h => h.elim (fun q => q c_198) (fun q => q c_202)) | exact jb_t' (by omega) | exact jb_f' (by omega)
    · refine jr_iload_n dX9_joined_187 rfl ?_
      refine jr_if_eq 195 dX9_joined_188 (by decide) (fun c_188 => ?_) (fun c_188 => ?_)
      · refine jr_iconst (0) dX9_joined_195 (by decide) ?_
        refine jr_iret rfl dX9_joined_196 ?_
        refine hQ _ _ ⟨?_, rfl⟩
        simp only [jnF, c_1, ne_eq, Int.reduceEq, if_true, if_false]
        first | done | (rw [if_pos c_129]; done) | (rw [if_neg c_129, c_138, div_m1]; done) | (rw [if_neg c_129]; done) | exact jb_f' (fun h => h.1 c_184) | exact jb_f' (fun h => h.2 c_188) | exact jb_t' ⟨c_184, c_188⟩ | exact jb_t' (Or.inl c_198) | exact jb_t' (Or.inr c_202) | exact jb_f' (fun h => h.elim (fun q => q c_198) (fun q => q c_202)) | exact jb_t' (by omega) | exact jb_f' (by omega)
      · refine jr_iconst (1) dX9_joined_191 (by decide) ?_
        refine jr_goto 196 dX9_joined_192 (by decide) ?_
        refine jr_iret rfl dX9_joined_196 ?_
        refine hQ _ _ ⟨?_, rfl⟩
        simp only [jnF, c_1, ne_eq, Int.reduceEq, if_true, if_false]
        first | done | (rw [if_pos c_129]; done) | (rw [if_neg c_129, c_138, div_m1]; done) | (rw [if_neg c_129]; done) | exact jb_f' (fun h => h.1 c_184) | exact jb_f' (fun h => h.2 c_188) | exact jb_t' ⟨c_184, c_188⟩ | exact jb_t' (Or.inl c_198) | exact jb_t' (Or.inr c_202) | exact jb_f' (fun h => h.elim (fun q => q c_198) (fun q => q c_202)) | exact jb_t' (by omega) | exact jb_f' (by omega)
  · refine jr_iload_n dX9_joined_124 rfl ?_
    refine jr_iload_n dX9_joined_125 rfl ?_
    refine jr_imul dX9_joined_126 ?_
    refine jr_iret rfl dX9_joined_127 ?_
    refine hQ _ _ ⟨?_, rfl⟩
    simp only [jnF, c_1, ne_eq, Int.reduceEq, if_true, if_false]
    first | done | (rw [if_pos c_129]; done) | (rw [if_neg c_129, c_138, div_m1]; done) | (rw [if_neg c_129]; done) | exact jb_f' (fun h => h.1 c_184) | exact jb_f' (fun h => h.2 c_188) | exact jb_t' ⟨c_184, c_188⟩ | exact jb_t' (Or.inl c_198) | exact jb_t' (Or.inr c_202) | exact jb_f' (fun h => h.elim (fun q => q c_198) (fun q => q c_202)) | exact jb_t' (by omega) | exact jb_f' (by omega)
  · refine jr_iload_n dX9_joined_116 rfl ?_
    refine jr_iload_n dX9_joined_117 rfl ?_
    refine jr_iadd dX9_joined_118 ?_
    refine jr_iret rfl dX9_joined_119 ?_
    refine hQ _ _ ⟨?_, rfl⟩
    simp only [jnF, c_1, ne_eq, Int.reduceEq, if_true, if_false]
    first | done | (rw [if_pos c_129]; done) | (rw [if_neg c_129, c_138, div_m1]; done) | (rw [if_neg c_129]; done) | exact jb_f' (fun h => h.1 c_184) | exact jb_f' (fun h => h.2 c_188) | exact jb_t' ⟨c_184, c_188⟩ | exact jb_t' (Or.inl c_198) | exact jb_t' (Or.inr c_202) | exact jb_f' (fun h => h.elim (fun q => q c_198) (fun q => q c_202)) | exact jb_t' (by omega) | exact jb_f' (by omega)
  · refine jr_iload_n dX9_joined_120 rfl ?_
    refine jr_iload_n dX9_joined_121 rfl ?_
    refine jr_isub dX9_joined_122 ?_
    refine jr_iret rfl dX9_joined_123 ?_
    refine hQ _ _ ⟨?_, rfl⟩
    simp only [jnF, c_1, ne_eq, Int.reduceEq, if_true, if_false]
    first | done | (rw [if_pos c_129]; done) | (rw [if_neg c_129, c_138, div_m1]; done) | (rw [if_neg c_129]; done) | exact jb_f' (fun h => h.1 c_184) | exact jb_f' (fun h => h.2 c_188) | exact jb_t' ⟨c_184, c_188⟩ | exact jb_t' (Or.inl c_198) | exact jb_t' (Or.inr c_202) | exact jb_f' (fun h => h.elim (fun q => q c_198) (fun q => q c_202)) | exact jb_t' (by omega) | exact jb_f' (by omega)
  · refine jr_iload_n dX9_joined_128 rfl ?_
    refine jr_if_ne 136 dX9_joined_129 (by decide) (fun c_129 => ?_) (fun c_129 => ?_)
    · refine jr_iload_n dX9_joined_136 rfl ?_
      refine jr_iconst (-1) dX9_joined_137 (by decide) ?_
      refine jr_icmp_ne 146 dX9_joined_138 (by decide) (fun c_138 => ?_) (fun c_138 => ?_)
      · refine jr_iload_n dX9_joined_146 rfl ?_
        refine jr_iload_n dX9_joined_147 rfl ?_
        refine jr_idiv dX9_joined_148 c_129 ?_
        refine jr_iret rfl dX9_joined_149 ?_
        refine hQ _ _ ⟨?_, rfl⟩
        simp only [jnF, c_1, ne_eq, Int.reduceEq, if_true, if_false]
        first | done | (rw [if_pos c_129]; done) | (rw [if_neg c_129, c_138, div_m1]; done) | (rw [if_neg c_129]; done) | exact jb_f' (fun h => h.1 c_184) | exact jb_f' (fun h => h.2 c_188) | exact jb_t' ⟨c_184, c_188⟩ | exact jb_t' (Or.inl c_198) | exact jb_t' (Or.inr c_202) | exact jb_f' (fun h => h.elim (fun q => q c_198) (fun q => q c_202)) | exact jb_t' (by omega) | exact jb_f' (by omega)
      · refine jr_iload_n dX9_joined_141 rfl ?_
        refine jr_ineg dX9_joined_142 ?_
        refine jr_goto 149 dX9_joined_143 (by decide) ?_
        refine jr_iret rfl dX9_joined_149 ?_
        refine hQ _ _ ⟨?_, rfl⟩
        simp only [jnF, c_1, ne_eq, Int.reduceEq, if_true, if_false]
        first | done | (rw [if_pos c_129]; done) | (rw [if_neg c_129, c_138, div_m1]; done) | (rw [if_neg c_129]; done) | exact jb_f' (fun h => h.1 c_184) | exact jb_f' (fun h => h.2 c_188) | exact jb_t' ⟨c_184, c_188⟩ | exact jb_t' (Or.inl c_198) | exact jb_t' (Or.inr c_202) | exact jb_f' (fun h => h.elim (fun q => q c_198) (fun q => q c_202)) | exact jb_t' (by omega) | exact jb_f' (by omega)
    · refine jr_iconst (0) dX9_joined_132 (by decide) ?_
      refine jr_goto 149 dX9_joined_133 (by decide) ?_
      refine jr_iret rfl dX9_joined_149 ?_
      refine hQ _ _ ⟨?_, rfl⟩
      simp only [jnF, c_1, ne_eq, Int.reduceEq, if_true, if_false]
      first | done | (rw [if_pos c_129]; done) | (rw [if_neg c_129, c_138, div_m1]; done) | (rw [if_neg c_129]; done) | exact jb_f' (fun h => h.1 c_184) | exact jb_f' (fun h => h.2 c_188) | exact jb_t' ⟨c_184, c_188⟩ | exact jb_t' (Or.inl c_198) | exact jb_t' (Or.inr c_202) | exact jb_f' (fun h => h.elim (fun q => q c_198) (fun q => q c_202)) | exact jb_t' (by omega) | exact jb_f' (by omega)
  · refine jr_iload_n dX9_joined_150 rfl ?_
    refine jr_iload_n dX9_joined_151 rfl ?_
    refine jr_icmp_ge 159 dX9_joined_152 (by decide) (fun c_152 => ?_) (fun c_152 => ?_)
    · simp only [lt_i, le_i, eq_i, Int32.reduceToInt] at c_152
      refine jr_iconst (0) dX9_joined_159 (by decide) ?_
      refine jr_iret rfl dX9_joined_160 ?_
      refine hQ _ _ ⟨?_, rfl⟩
      simp only [jnF, c_1, ne_eq, Int.reduceEq, if_true, if_false]
      first | done | (rw [if_pos c_129]; done) | (rw [if_neg c_129, c_138, div_m1]; done) | (rw [if_neg c_129]; done) | exact jb_f' (fun h => h.1 c_184) | exact jb_f' (fun h => h.2 c_188) | exact jb_t' ⟨c_184, c_188⟩ | exact jb_t' (Or.inl c_198) | exact jb_t' (Or.inr c_202) | exact jb_f' (fun h => h.elim (fun q => q c_198) (fun q => q c_202)) | exact jb_t' (by omega) | exact jb_f' (by omega)
    · simp only [lt_i, le_i, eq_i, Int32.reduceToInt] at c_152
      refine jr_iconst (1) dX9_joined_155 (by decide) ?_
      refine jr_goto 160 dX9_joined_156 (by decide) ?_
      refine jr_iret rfl dX9_joined_160 ?_
      refine hQ _ _ ⟨?_, rfl⟩
      simp only [jnF, c_1, ne_eq, Int.reduceEq, if_true, if_false]
      first | done | (rw [if_pos c_129]; done) | (rw [if_neg c_129, c_138, div_m1]; done) | (rw [if_neg c_129]; done) | exact jb_f' (fun h => h.1 c_184) | exact jb_f' (fun h => h.2 c_188) | exact jb_t' ⟨c_184, c_188⟩ | exact jb_t' (Or.inl c_198) | exact jb_t' (Or.inr c_202) | exact jb_f' (fun h => h.elim (fun q => q c_198) (fun q => q c_202)) | exact jb_t' (by omega) | exact jb_f' (by omega)
  · refine jr_iload_n dX9_joined_172 rfl ?_
    refine jr_iload_n dX9_joined_173 rfl ?_
    refine jr_icmp_ne 181 dX9_joined_174 (by decide) (fun c_174 => ?_) (fun c_174 => ?_)
    · simp only [lt_i, le_i, eq_i, Int32.reduceToInt] at c_174
      refine jr_iconst (0) dX9_joined_181 (by decide) ?_
      refine jr_iret rfl dX9_joined_182 ?_
      refine hQ _ _ ⟨?_, rfl⟩
      simp only [jnF, c_1, ne_eq, Int.reduceEq, if_true, if_false]
      first | done | (rw [if_pos c_129]; done) | (rw [if_neg c_129, c_138, div_m1]; done) | (rw [if_neg c_129]; done) | exact jb_f' (fun h => h.1 c_184) | exact jb_f' (fun h => h.2 c_188) | exact jb_t' ⟨c_184, c_188⟩ | exact jb_t' (Or.inl c_198) | exact jb_t' (Or.inr c_202) | exact jb_f' (fun h => h.elim (fun q => q c_198) (fun q => q c_202)) | exact jb_t' (by omega) | exact jb_f' (by omega)
    · simp only [lt_i, le_i, eq_i, Int32.reduceToInt] at c_174
      refine jr_iconst (1) dX9_joined_177 (by decide) ?_
      refine jr_goto 182 dX9_joined_178 (by decide) ?_
      refine jr_iret rfl dX9_joined_182 ?_
      refine hQ _ _ ⟨?_, rfl⟩
      simp only [jnF, c_1, ne_eq, Int.reduceEq, if_true, if_false]
      first | done | (rw [if_pos c_129]; done) | (rw [if_neg c_129, c_138, div_m1]; done) | (rw [if_neg c_129]; done) | exact jb_f' (fun h => h.1 c_184) | exact jb_f' (fun h => h.2 c_188) | exact jb_t' ⟨c_184, c_188⟩ | exact jb_t' (Or.inl c_198) | exact jb_t' (Or.inr c_202) | exact jb_f' (fun h => h.elim (fun q => q c_198) (fun q => q c_202)) | exact jb_t' (by omega) | exact jb_f' (by omega)
  · refine jr_iload_n dX9_joined_161 rfl ?_
    refine jr_iload_n dX9_joined_162 rfl ?_
    refine jr_icmp_le 170 dX9_joined_163 (by decide) (fun c_163 => ?_) (fun c_163 => ?_)
    · simp only [lt_i, le_i, eq_i, Int32.reduceToInt] at c_163
      refine jr_iconst (0) dX9_joined_170 (by decide) ?_
      refine jr_iret rfl dX9_joined_171 ?_
      refine hQ _ _ ⟨?_, rfl⟩
      simp only [jnF, c_1, ne_eq, Int.reduceEq, if_true, if_false]
      first | done | (rw [if_pos c_129]; done) | (rw [if_neg c_129, c_138, div_m1]; done) | (rw [if_neg c_129]; done) | exact jb_f' (fun h => h.1 c_184) | exact jb_f' (fun h => h.2 c_188) | exact jb_t' ⟨c_184, c_188⟩ | exact jb_t' (Or.inl c_198) | exact jb_t' (Or.inr c_202) | exact jb_f' (fun h => h.elim (fun q => q c_198) (fun q => q c_202)) | exact jb_t' (by omega) | exact jb_f' (by omega)
    · simp only [lt_i, le_i, eq_i, Int32.reduceToInt] at c_163
      refine jr_iconst (1) dX9_joined_166 (by decide) ?_
      refine jr_goto 171 dX9_joined_167 (by decide) ?_
      refine jr_iret rfl dX9_joined_171 ?_
      refine hQ _ _ ⟨?_, rfl⟩
      simp only [jnF, c_1, ne_eq, Int.reduceEq, if_true, if_false]
      first | done | (rw [if_pos c_129]; done) | (rw [if_neg c_129, c_138, div_m1]; done) | (rw [if_neg c_129]; done) | exact jb_f' (fun h => h.1 c_184) | exact jb_f' (fun h => h.2 c_188) | exact jb_t' ⟨c_184, c_188⟩ | exact jb_t' (Or.inl c_198) | exact jb_t' (Or.inr c_202) | exact jb_f' (fun h => h.elim (fun q => q c_198) (fun q => q c_202)) | exact jb_t' (by omega) | exact jb_f' (by omega)
  · refine jr_iload_n dX9_joined_197 rfl ?_
    refine jr_if_ne 205 dX9_joined_198 (by decide) (fun c_198 => ?_) (fun c_198 => ?_)
    · refine jr_iconst (1) dX9_joined_205 (by decide) ?_
      refine jr_goto 210 dX9_joined_206 (by decide) ?_
      refine jr_iret rfl dX9_joined_210 ?_
      refine hQ _ _ ⟨?_, rfl⟩
      simp only [jnF, c_1, ne_eq, Int.reduceEq, if_true, if_false]
      first | done | (rw [if_pos c_129]; done) | (rw [if_neg c_129, c_138, div_m1]; done) | (rw [if_neg c_129]; done) | exact jb_f' (fun h => h.1 c_184) | exact jb_f' (fun h => h.2 c_188) | exact jb_t' ⟨c_184, c_188⟩ | exact jb_t' (Or.inl c_198) | exact jb_t' (Or.inr c_202) | exact jb_f' (fun h => h.elim (fun q => q c_198) (fun q => q c_202)) | exact jb_t' (by omega) | exact jb_f' (by omega)
    · refine jr_iload_n dX9_joined_201 rfl ?_
      refine jr_if_eq 209 dX9_joined_202 (by decide) (fun c_202 => ?_) (fun c_202 => ?_)
      · refine jr_iconst (0) dX9_joined_209 (by decide) ?_
        refine jr_iret rfl dX9_joined_210 ?_
        refine hQ _ _ ⟨?_, rfl⟩
        simp only [jnF, c_1, ne_eq, Int.reduceEq, if_true, if_false]
        first | done | (rw [if_pos c_129]; done) | (rw [if_neg c_129, c_138, div_m1]; done) | (rw [if_neg c_129]; done) | exact jb_f' (fun h => h.1 c_184) | exact jb_f' (fun h => h.2 c_188) | exact jb_t' ⟨c_184, c_188⟩ | exact jb_t' (Or.inl c_198) | exact jb_t' (Or.inr c_202) | exact jb_f' (fun h => h.elim (fun q => q c_198) (fun q => q c_202)) | exact jb_t' (by omega) | exact jb_f' (by omega)
      · refine jr_iconst (1) dX9_joined_205 (by decide) ?_
        refine jr_goto 210 dX9_joined_206 (by decide) ?_
        refine jr_iret rfl dX9_joined_210 ?_
        refine hQ _ _ ⟨?_, rfl⟩
        simp only [jnF, c_1, ne_eq, Int.reduceEq, if_true, if_false]
        first | done | (rw [if_pos c_129]; done) | (rw [if_neg c_129, c_138, div_m1]; done) | (rw [if_neg c_129]; done) | exact jb_f' (fun h => h.1 c_184) | exact jb_f' (fun h => h.2 c_188) | exact jb_t' ⟨c_184, c_188⟩ | exact jb_t' (Or.inl c_198) | exact jb_t' (Or.inr c_202) | exact jb_f' (fun h => h.elim (fun q => q c_198) (fun q => q c_202)) | exact jb_t' (by omega) | exact jb_f' (by omega)
theorem c_worked (g : Cx) (w : Wd) (hw : Wf w) (s : Nat → Int32) (hs : wI w 79 = s) (t : Nat) (ht : t < 14) (hT : TxOk s t) : CI g yX9_worked cX9_worked 6 (some .int) 2 0 0 [.ref (gb g + 78), .int (nI t)] w (fun r w' => r = evF s t (fun v => wI w 93 v.toNatClampNeg) ∧ Sm (fun i => i = 94) w w') := by
  refine CI.of (own := RX9) (nm := "worked") (lv := [some (.ref (gb g + 78)), some (.int (nI t)), none, none, none, none]) (by decide) rfl rfl (Nat.le_of_ble_eq_true rfl) rfl (fun Q hQ => ?_)
  obtain ⟨-, hM, hV, hD⟩ := id hT
  have hN : tMany s t ≤ 93 := hM.2
  have L : ∀ (f k n : Nat) (w1 : Wd) (a4 a5 : Option Value), n = dpF s t k → f + k = tMany s t → Sm (fun i => i = 94) w w1 → PR (wkF s t (fun v => wI w 93 v.toNatClampNeg) k) (wI w1 94) → RR g RX9 cX9_worked 6 (some .int) "worked" 2 0 0 0 0 4 [some (.ref (gb g + 78)), some (.int (nI t)), some (.int (nI n)), some (.int (nI k)), a4, a5] [] w1 Q := by
    intro f
    induction f with
    | zero =>
      intro k n w1 a4 a5 hn hk hS hP
      subst hn
      have e : k = tMany s t := by omega
      subst e
      have hw1 := hS.wf hw
      have hs1 : wI w1 79 = s := (hS.row (by decide)).trans hs
      refine jr_iload_n dX9_worked_4 rfl ?_
      refine jr_aload_n dX9_worked_5 rfl ?_
      refine gfX9_7 79 dX9_worked_6 (hw1.k rfl) (hw1.f rfl) ?_
      refine jr_aload_n dX9_worked_9 rfl ?_
      refine jr_iload_n dX9_worked_10 rfl ?_
      refine jc_Vi (c_mtextAt g _ t) lkX9_277 (hw1.k rfl) rfl rfl (Nat.le_of_ble_eq_true rfl) (Nat.le_of_ble_eq_true rfl) dX9_worked_11 (fun r_11 w_11 h_11 => ?_)
      obtain ⟨rfl, rfl⟩ := h_11
      refine jr_iconst (2) dX9_worked_14 (by decide) ?_
      refine jr_iadd dX9_worked_15 ?_
      refine jr_iald (40 + 200 * t + 2) (hw1.k rfl) (by simp only [jlit, nI_add]) ⟨by omega, by decide⟩ dX9_worked_16 ?_
      refine jr_icmp_ge 163 dX9_worked_17 (by decide) (fun c_17 => ?_) (fun c_17 => absurd (by rw [hs1, hM.1]; exact Int32.le_refl _) c_17)
      refine jr_aload_n dX9_worked_163 rfl ?_
      refine gfX9_55 94 dX9_worked_164 (hw1.k rfl) (hw1.f rfl) ?_
      refine jr_iconst (0) dX9_worked_167 (by decide) ?_
      refine jr_iald 0 (hw1.k rfl) rfl (by decide) dX9_worked_168 ?_
      refine jr_iret rfl dX9_worked_169 ?_
      exact hQ _ _ ⟨hP.bottom (by rw [wk_len hV _ _ (Nat.le_refl _)]; exact hD), hS⟩
    | succ f ih =>
      intro k n w1 a4 a5 hn hk hS hP
      subst hn
      have hw1 := hS.wf hw
      have hs1 : wI w1 79 = s := (hS.row (by decide)).trans hs
      have hn1 : wI w1 93 = wI w 93 := hS.row (by decide)
      have hdk := dp_le s t k
      have hgo : ∀ (x : Int32) (st : List Value), ¬ s (40 + 200 * t + 2) ≤ nI k := fun _ _ => by rw [hM.1]; exact nI_ge (by show k < tMany s t; omega) (by show tMany s t < _; omega)
      rcases hV k (by omega) with ⟨h1, h2⟩ | ⟨h1, h2⟩ | ⟨h1, h2, h3⟩ | ⟨h1, h2, h3⟩
      · obtain ⟨hP2, hd2⟩ := PR_num hV (by omega) h1 hP
        refine jr_iload_n dX9_worked_4 rfl ?_
        refine jr_aload_n dX9_worked_5 rfl ?_
        refine gfX9_7 79 dX9_worked_6 (hw1.k rfl) (hw1.f rfl) ?_
        refine jr_aload_n dX9_worked_9 rfl ?_
        refine jr_iload_n dX9_worked_10 rfl ?_
        refine jc_Vi (c_mtextAt g _ t) lkX9_277 (hw1.k rfl) rfl rfl (Nat.le_of_ble_eq_true rfl) (Nat.le_of_ble_eq_true rfl) dX9_worked_11 (fun r_11 w_11 h_11 => ?_)
        obtain ⟨rfl, rfl⟩ := h_11
        refine jr_iconst (2) dX9_worked_14 (by decide) ?_
        refine jr_iadd dX9_worked_15 ?_
        refine jr_iald (40 + 200 * t + 2) (hw1.k rfl) (by simp only [jlit, nI_add]) ⟨by omega, by decide⟩ dX9_worked_16 ?_
        refine jr_icmp_ge 163 dX9_worked_17 (by decide) (fun c_17 => absurd c_17 (by rw [hs1]; exact hgo 0 [])) (fun c_17 => ?_)
        refine jr_aload_n dX9_worked_20 rfl ?_
        refine gfX9_7 79 dX9_worked_21 (hw1.k rfl) (hw1.f rfl) ?_
        refine jr_aload_n dX9_worked_24 rfl ?_
        refine jr_iload_n dX9_worked_25 rfl ?_
        refine jc_Vi (c_mtextAt g _ t) lkX9_277 (hw1.k rfl) rfl rfl (Nat.le_of_ble_eq_true rfl) (Nat.le_of_ble_eq_true rfl) dX9_worked_26 (fun r_26 w_26 h_26 => ?_)
        obtain ⟨rfl, rfl⟩ := h_26
        refine jr_iconst (4) dX9_worked_29 (by decide) ?_
        refine jr_iadd dX9_worked_30 ?_
        refine jr_iconst (2) dX9_worked_31 (by decide) ?_
        refine jr_iload_n dX9_worked_32 rfl ?_
        refine jr_imul dX9_worked_33 ?_
        refine jr_iadd dX9_worked_34 ?_
        refine jr_iald (40 + 200 * t + 4 + 2 * k) (hw1.k rfl) (by simp only [jlit, nI_add, pk_mul]) ⟨by omega, by decide⟩ dX9_worked_35 ?_
        refine jr_istore_4 dX9_worked_36 (by decide) rfl ?_
        refine jr_aload_n dX9_worked_38 rfl ?_
        refine gfX9_7 79 dX9_worked_39 (hw1.k rfl) (hw1.f rfl) ?_
        refine jr_aload_n dX9_worked_42 rfl ?_
        refine jr_iload_n dX9_worked_43 rfl ?_
        refine jc_Vi (c_mtextAt g _ t) lkX9_277 (hw1.k rfl) rfl rfl (Nat.le_of_ble_eq_true rfl) (Nat.le_of_ble_eq_true rfl) dX9_worked_44 (fun r_44 w_44 h_44 => ?_)
        obtain ⟨rfl, rfl⟩ := h_44
        refine jr_iconst (4) dX9_worked_47 (by decide) ?_
        refine jr_iadd dX9_worked_48 ?_
        refine jr_iconst (2) dX9_worked_49 (by decide) ?_
        refine jr_iload_n dX9_worked_50 rfl ?_
        refine jr_imul dX9_worked_51 ?_
        refine jr_iadd dX9_worked_52 ?_
        refine jr_iconst (1) dX9_worked_53 (by decide) ?_
        refine jr_iadd dX9_worked_54 ?_
        refine jr_iald (40 + 200 * t + 4 + 2 * k + 1) (hw1.k rfl) (by simp only [jlit, nI_add, pk_mul]) ⟨by omega, by decide⟩ dX9_worked_55 ?_
        rw [hs1]
        refine jr_istore_5 dX9_worked_56 (by decide) rfl ?_
        refine jr_iload dX9_worked_58 rfl ?_
        refine jr_iconst (2) dX9_worked_60 (by decide) ?_
        refine jr_icmp_eq 93 dX9_worked_61 (by decide) (fun c_61 => absurd c_61 (by rw [eq_i, h1]; decide)) (fun c_61 => ?_)
        refine jr_aload_n dX9_worked_64 rfl ?_
        refine gfX9_55 94 dX9_worked_65 (hw1.k rfl) (hw1.f rfl) ?_
        refine jr_iload_n dX9_worked_68 rfl ?_
        refine jr_iload dX9_worked_69 rfl ?_
        refine jr_if_ne 79 dX9_worked_71 (by decide) (fun c_71 => absurd (by rw [eq_i, h1]; rfl) c_71) (fun c_71 => ?_)
        refine jr_iload dX9_worked_74 rfl ?_
        refine jr_goto 86 dX9_worked_76 (by decide) ?_
        refine jr_iast (dpF s t k) (hw1.k rfl) rfl ⟨by omega, by decide⟩ dX9_worked_86 ?_
        refine jr_iinc_2 (nI (dpF s t (k + 1))) dX9_worked_87 (by rw [inc1, hd2]) (by decide) rfl ?_
        refine jr_goto 157 dX9_worked_90 (by decide) ?_
        refine jr_iinc_3 (nI (k + 1)) dX9_worked_157 (inc1 k) (by decide) rfl ?_
        refine jr_goto 4 dX9_worked_160 (by decide) ?_
        exact ih (k + 1) _ _ _ _ rfl (by omega) (hS.tr (Sm.sR rfl)) (by rw [wI_sR_s]; exact hP2)
      · obtain ⟨hP2, hd2⟩ := PR_name hV (by omega) h1 hP
        refine jr_iload_n dX9_worked_4 rfl ?_
        refine jr_aload_n dX9_worked_5 rfl ?_
        refine gfX9_7 79 dX9_worked_6 (hw1.k rfl) (hw1.f rfl) ?_
        refine jr_aload_n dX9_worked_9 rfl ?_
        refine jr_iload_n dX9_worked_10 rfl ?_
        refine jc_Vi (c_mtextAt g _ t) lkX9_277 (hw1.k rfl) rfl rfl (Nat.le_of_ble_eq_true rfl) (Nat.le_of_ble_eq_true rfl) dX9_worked_11 (fun r_11 w_11 h_11 => ?_)
        obtain ⟨rfl, rfl⟩ := h_11
        refine jr_iconst (2) dX9_worked_14 (by decide) ?_
        refine jr_iadd dX9_worked_15 ?_
        refine jr_iald (40 + 200 * t + 2) (hw1.k rfl) (by simp only [jlit, nI_add]) ⟨by omega, by decide⟩ dX9_worked_16 ?_
        refine jr_icmp_ge 163 dX9_worked_17 (by decide) (fun c_17 => absurd c_17 (by rw [hs1]; exact hgo 0 [])) (fun c_17 => ?_)
        refine jr_aload_n dX9_worked_20 rfl ?_
        refine gfX9_7 79 dX9_worked_21 (hw1.k rfl) (hw1.f rfl) ?_
        refine jr_aload_n dX9_worked_24 rfl ?_
        refine jr_iload_n dX9_worked_25 rfl ?_
        refine jc_Vi (c_mtextAt g _ t) lkX9_277 (hw1.k rfl) rfl rfl (Nat.le_of_ble_eq_true rfl) (Nat.le_of_ble_eq_true rfl) dX9_worked_26 (fun r_26 w_26 h_26 => ?_)
        obtain ⟨rfl, rfl⟩ := h_26
        refine jr_iconst (4) dX9_worked_29 (by decide) ?_
        refine jr_iadd dX9_worked_30 ?_
        refine jr_iconst (2) dX9_worked_31 (by decide) ?_
        refine jr_iload_n dX9_worked_32 rfl ?_
        refine jr_imul dX9_worked_33 ?_
        refine jr_iadd dX9_worked_34 ?_
        refine jr_iald (40 + 200 * t + 4 + 2 * k) (hw1.k rfl) (by simp only [jlit, nI_add, pk_mul]) ⟨by omega, by decide⟩ dX9_worked_35 ?_
        refine jr_istore_4 dX9_worked_36 (by decide) rfl ?_
        refine jr_aload_n dX9_worked_38 rfl ?_
        refine gfX9_7 79 dX9_worked_39 (hw1.k rfl) (hw1.f rfl) ?_
        refine jr_aload_n dX9_worked_42 rfl ?_
        refine jr_iload_n dX9_worked_43 rfl ?_
        refine jc_Vi (c_mtextAt g _ t) lkX9_277 (hw1.k rfl) rfl rfl (Nat.le_of_ble_eq_true rfl) (Nat.le_of_ble_eq_true rfl) dX9_worked_44 (fun r_44 w_44 h_44 => ?_)
        obtain ⟨rfl, rfl⟩ := h_44
        refine jr_iconst (4) dX9_worked_47 (by decide) ?_
        refine jr_iadd dX9_worked_48 ?_
        refine jr_iconst (2) dX9_worked_49 (by decide) ?_
        refine jr_iload_n dX9_worked_50 rfl ?_
        refine jr_imul dX9_worked_51 ?_
        refine jr_iadd dX9_worked_52 ?_
        refine jr_iconst (1) dX9_worked_53 (by decide) ?_
        refine jr_iadd dX9_worked_54 ?_
        refine jr_iald (40 + 200 * t + 4 + 2 * k + 1) (hw1.k rfl) (by simp only [jlit, nI_add, pk_mul]) ⟨by omega, by decide⟩ dX9_worked_55 ?_
        rw [hs1]
        refine jr_istore_5 dX9_worked_56 (by decide) rfl ?_
        refine jr_iload dX9_worked_58 rfl ?_
        refine jr_iconst (2) dX9_worked_60 (by decide) ?_
        refine jr_icmp_eq 93 dX9_worked_61 (by decide) (fun c_61 => absurd c_61 (by rw [eq_i, h1]; decide)) (fun c_61 => ?_)
        refine jr_aload_n dX9_worked_64 rfl ?_
        refine gfX9_55 94 dX9_worked_65 (hw1.k rfl) (hw1.f rfl) ?_
        refine jr_iload_n dX9_worked_68 rfl ?_
        refine jr_iload dX9_worked_69 rfl ?_
        refine jr_if_ne 79 dX9_worked_71 (by decide) (fun c_71 => ?_) (fun c_71 => absurd c_71 (by rw [eq_i, h1]; decide))
        refine jr_aload_n dX9_worked_79 rfl ?_
        refine gfX9_52 93 dX9_worked_80 (hw1.k rfl) (hw1.f rfl) ?_
        refine jr_iload dX9_worked_83 rfl ?_
        refine jr_iald (s (40 + 200 * t + 4 + 2 * k + 1)).toNatClampNeg (hw1.k rfl) (name_ix h2).1 ⟨(name_ix h2).2, by decide⟩ dX9_worked_85 ?_
        refine jr_iast (dpF s t k) (hw1.k rfl) rfl ⟨by omega, by decide⟩ dX9_worked_86 ?_
        refine jr_iinc_2 (nI (dpF s t (k + 1))) dX9_worked_87 (by rw [inc1, hd2]) (by decide) rfl ?_
        refine jr_goto 157 dX9_worked_90 (by decide) ?_
        refine jr_iinc_3 (nI (k + 1)) dX9_worked_157 (inc1 k) (by decide) rfl ?_
        refine jr_goto 4 dX9_worked_160 (by decide) ?_
        exact ih (k + 1) _ _ _ _ rfl (by omega) (hS.tr (Sm.sR rfl)) (by rw [wI_sR_s, hn1]; exact hP2)
      · obtain ⟨hP2, hd2⟩ := PR_not hV (by omega) h1 h2 h3 hP
        refine jr_iload_n dX9_worked_4 rfl ?_
        refine jr_aload_n dX9_worked_5 rfl ?_
        refine gfX9_7 79 dX9_worked_6 (hw1.k rfl) (hw1.f rfl) ?_
        refine jr_aload_n dX9_worked_9 rfl ?_
        refine jr_iload_n dX9_worked_10 rfl ?_
        refine jc_Vi (c_mtextAt g _ t) lkX9_277 (hw1.k rfl) rfl rfl (Nat.le_of_ble_eq_true rfl) (Nat.le_of_ble_eq_true rfl) dX9_worked_11 (fun r_11 w_11 h_11 => ?_)
        obtain ⟨rfl, rfl⟩ := h_11
        refine jr_iconst (2) dX9_worked_14 (by decide) ?_
        refine jr_iadd dX9_worked_15 ?_
        refine jr_iald (40 + 200 * t + 2) (hw1.k rfl) (by simp only [jlit, nI_add]) ⟨by omega, by decide⟩ dX9_worked_16 ?_
        refine jr_icmp_ge 163 dX9_worked_17 (by decide) (fun c_17 => absurd c_17 (by rw [hs1]; exact hgo 0 [])) (fun c_17 => ?_)
        refine jr_aload_n dX9_worked_20 rfl ?_
        refine gfX9_7 79 dX9_worked_21 (hw1.k rfl) (hw1.f rfl) ?_
        refine jr_aload_n dX9_worked_24 rfl ?_
        refine jr_iload_n dX9_worked_25 rfl ?_
        refine jc_Vi (c_mtextAt g _ t) lkX9_277 (hw1.k rfl) rfl rfl (Nat.le_of_ble_eq_true rfl) (Nat.le_of_ble_eq_true rfl) dX9_worked_26 (fun r_26 w_26 h_26 => ?_)
        obtain ⟨rfl, rfl⟩ := h_26
        refine jr_iconst (4) dX9_worked_29 (by decide) ?_
        refine jr_iadd dX9_worked_30 ?_
        refine jr_iconst (2) dX9_worked_31 (by decide) ?_
        refine jr_iload_n dX9_worked_32 rfl ?_
        refine jr_imul dX9_worked_33 ?_
        refine jr_iadd dX9_worked_34 ?_
        refine jr_iald (40 + 200 * t + 4 + 2 * k) (hw1.k rfl) (by simp only [jlit, nI_add, pk_mul]) ⟨by omega, by decide⟩ dX9_worked_35 ?_
        refine jr_istore_4 dX9_worked_36 (by decide) rfl ?_
        refine jr_aload_n dX9_worked_38 rfl ?_
        refine gfX9_7 79 dX9_worked_39 (hw1.k rfl) (hw1.f rfl) ?_
        refine jr_aload_n dX9_worked_42 rfl ?_
        refine jr_iload_n dX9_worked_43 rfl ?_
        refine jc_Vi (c_mtextAt g _ t) lkX9_277 (hw1.k rfl) rfl rfl (Nat.le_of_ble_eq_true rfl) (Nat.le_of_ble_eq_true rfl) dX9_worked_44 (fun r_44 w_44 h_44 => ?_)
        obtain ⟨rfl, rfl⟩ := h_44
        refine jr_iconst (4) dX9_worked_47 (by decide) ?_
        refine jr_iadd dX9_worked_48 ?_
        refine jr_iconst (2) dX9_worked_49 (by decide) ?_
        refine jr_iload_n dX9_worked_50 rfl ?_
        refine jr_imul dX9_worked_51 ?_
        refine jr_iadd dX9_worked_52 ?_
        refine jr_iconst (1) dX9_worked_53 (by decide) ?_
        refine jr_iadd dX9_worked_54 ?_
        refine jr_iald (40 + 200 * t + 4 + 2 * k + 1) (hw1.k rfl) (by simp only [jlit, nI_add, pk_mul]) ⟨by omega, by decide⟩ dX9_worked_55 ?_
        rw [hs1]
        refine jr_istore_5 dX9_worked_56 (by decide) rfl ?_
        refine jr_iload dX9_worked_58 rfl ?_
        refine jr_iconst (2) dX9_worked_60 (by decide) ?_
        refine jr_icmp_eq 93 dX9_worked_61 (by decide) (fun c_61 => ?_) (fun c_61 => absurd (by rw [eq_i, h1]; rfl) c_61)
        refine jr_iload dX9_worked_93 rfl ?_
        refine jr_bipush (33) dX9_worked_95 (by decide) ?_
        refine jr_icmp_ne 127 dX9_worked_97 (by decide) (fun c_97 => absurd (by rw [eq_i, h2]; rfl) c_97) (fun c_97 => ?_)
        refine jr_aload_n dX9_worked_100 rfl ?_
        refine gfX9_55 94 dX9_worked_101 (hw1.k rfl) (hw1.f rfl) ?_
        refine jr_iload_n dX9_worked_104 rfl ?_
        refine jr_iconst (1) dX9_worked_105 (by decide) ?_
        refine jr_isub dX9_worked_106 ?_
        refine jr_aload_n dX9_worked_107 rfl ?_
        refine gfX9_55 94 dX9_worked_108 (hw1.k rfl) (hw1.f rfl) ?_
        refine jr_iload_n dX9_worked_111 rfl ?_
        refine jr_iconst (1) dX9_worked_112 (by decide) ?_
        refine jr_isub dX9_worked_113 ?_
        refine jr_iald (dpF s t k - 1) (hw1.k rfl) (sub1 h3) ⟨by omega, by decide⟩ dX9_worked_114 ?_
        refine jr_if_ne 122 dX9_worked_115 (by decide) (fun c_115 => ?_) (fun c_115 => ?_)
        · refine jr_iconst (0) dX9_worked_122 (by decide) ?_
          refine jr_iast (dpF s t k - 1) (hw1.k rfl) (sub1 h3) ⟨by omega, by decide⟩ dX9_worked_123 ?_
          refine jr_goto 157 dX9_worked_124 (by decide) ?_
          refine jr_iinc_3 (nI (k + 1)) dX9_worked_157 (inc1 k) (by decide) rfl ?_
          refine jr_goto 4 dX9_worked_160 (by decide) ?_
          first | rw [jb_t c_115] at hP2 | rw [jb_f c_115] at hP2
          exact ih (k + 1) _ _ _ _ hd2.symm (by omega) (hS.tr (Sm.sR rfl)) (by rw [wI_sR_s]; exact hP2)
        · refine jr_iconst (1) dX9_worked_118 (by decide) ?_
          refine jr_goto 123 dX9_worked_119 (by decide) ?_
          refine jr_iast (dpF s t k - 1) (hw1.k rfl) (sub1 h3) ⟨by omega, by decide⟩ dX9_worked_123 ?_
          refine jr_goto 157 dX9_worked_124 (by decide) ?_
          refine jr_iinc_3 (nI (k + 1)) dX9_worked_157 (inc1 k) (by decide) rfl ?_
          refine jr_goto 4 dX9_worked_160 (by decide) ?_
          first | rw [jb_t c_115] at hP2 | rw [jb_f c_115] at hP2
          exact ih (k + 1) _ _ _ _ hd2.symm (by omega) (hS.tr (Sm.sR rfl)) (by rw [wI_sR_s]; exact hP2)
      · obtain ⟨hP2, hd2⟩ := PR_bin hV (by omega) h1 (sign_ne h2) h3 hP
        refine jr_iload_n dX9_worked_4 rfl ?_
        refine jr_aload_n dX9_worked_5 rfl ?_
        refine gfX9_7 79 dX9_worked_6 (hw1.k rfl) (hw1.f rfl) ?_
        refine jr_aload_n dX9_worked_9 rfl ?_
        refine jr_iload_n dX9_worked_10 rfl ?_
        refine jc_Vi (c_mtextAt g _ t) lkX9_277 (hw1.k rfl) rfl rfl (Nat.le_of_ble_eq_true rfl) (Nat.le_of_ble_eq_true rfl) dX9_worked_11 (fun r_11 w_11 h_11 => ?_)
        obtain ⟨rfl, rfl⟩ := h_11
        refine jr_iconst (2) dX9_worked_14 (by decide) ?_
        refine jr_iadd dX9_worked_15 ?_
        refine jr_iald (40 + 200 * t + 2) (hw1.k rfl) (by simp only [jlit, nI_add]) ⟨by omega, by decide⟩ dX9_worked_16 ?_
        refine jr_icmp_ge 163 dX9_worked_17 (by decide) (fun c_17 => absurd c_17 (by rw [hs1]; exact hgo 0 [])) (fun c_17 => ?_)
        refine jr_aload_n dX9_worked_20 rfl ?_
        refine gfX9_7 79 dX9_worked_21 (hw1.k rfl) (hw1.f rfl) ?_
        refine jr_aload_n dX9_worked_24 rfl ?_
        refine jr_iload_n dX9_worked_25 rfl ?_
        refine jc_Vi (c_mtextAt g _ t) lkX9_277 (hw1.k rfl) rfl rfl (Nat.le_of_ble_eq_true rfl) (Nat.le_of_ble_eq_true rfl) dX9_worked_26 (fun r_26 w_26 h_26 => ?_)
        obtain ⟨rfl, rfl⟩ := h_26
        refine jr_iconst (4) dX9_worked_29 (by decide) ?_
        refine jr_iadd dX9_worked_30 ?_
        refine jr_iconst (2) dX9_worked_31 (by decide) ?_
        refine jr_iload_n dX9_worked_32 rfl ?_
        refine jr_imul dX9_worked_33 ?_
        refine jr_iadd dX9_worked_34 ?_
        refine jr_iald (40 + 200 * t + 4 + 2 * k) (hw1.k rfl) (by simp only [jlit, nI_add, pk_mul]) ⟨by omega, by decide⟩ dX9_worked_35 ?_
        refine jr_istore_4 dX9_worked_36 (by decide) rfl ?_
        refine jr_aload_n dX9_worked_38 rfl ?_
        refine gfX9_7 79 dX9_worked_39 (hw1.k rfl) (hw1.f rfl) ?_
        refine jr_aload_n dX9_worked_42 rfl ?_
        refine jr_iload_n dX9_worked_43 rfl ?_
        refine jc_Vi (c_mtextAt g _ t) lkX9_277 (hw1.k rfl) rfl rfl (Nat.le_of_ble_eq_true rfl) (Nat.le_of_ble_eq_true rfl) dX9_worked_44 (fun r_44 w_44 h_44 => ?_)
        obtain ⟨rfl, rfl⟩ := h_44
        refine jr_iconst (4) dX9_worked_47 (by decide) ?_
        refine jr_iadd dX9_worked_48 ?_
        refine jr_iconst (2) dX9_worked_49 (by decide) ?_
        refine jr_iload_n dX9_worked_50 rfl ?_
        refine jr_imul dX9_worked_51 ?_
        refine jr_iadd dX9_worked_52 ?_
        refine jr_iconst (1) dX9_worked_53 (by decide) ?_
        refine jr_iadd dX9_worked_54 ?_
        refine jr_iald (40 + 200 * t + 4 + 2 * k + 1) (hw1.k rfl) (by simp only [jlit, nI_add, pk_mul]) ⟨by omega, by decide⟩ dX9_worked_55 ?_
        rw [hs1]
        refine jr_istore_5 dX9_worked_56 (by decide) rfl ?_
        refine jr_iload dX9_worked_58 rfl ?_
        refine jr_iconst (2) dX9_worked_60 (by decide) ?_
        refine jr_icmp_eq 93 dX9_worked_61 (by decide) (fun c_61 => ?_) (fun c_61 => absurd (by rw [eq_i, h1]; rfl) c_61)
        refine jr_iload dX9_worked_93 rfl ?_
        refine jr_bipush (33) dX9_worked_95 (by decide) ?_
        refine jr_icmp_ne 127 dX9_worked_97 (by decide) (fun c_97 => ?_) (fun c_97 => absurd c_97 (by rw [eq_i]; exact sign_ne h2))
        refine jr_iinc_2 (nI (dpF s t k - 1)) dX9_worked_127 (dec1 (by omega)) (by decide) rfl ?_
        refine jr_aload_n dX9_worked_130 rfl ?_
        refine gfX9_55 94 dX9_worked_131 (hw1.k rfl) (hw1.f rfl) ?_
        refine jr_iload_n dX9_worked_134 rfl ?_
        refine jr_iconst (1) dX9_worked_135 (by decide) ?_
        refine jr_isub dX9_worked_136 ?_
        refine jr_iload dX9_worked_137 rfl ?_
        refine jr_aload_n dX9_worked_139 rfl ?_
        refine gfX9_55 94 dX9_worked_140 (hw1.k rfl) (hw1.f rfl) ?_
        refine jr_iload_n dX9_worked_143 rfl ?_
        refine jr_iconst (1) dX9_worked_144 (by decide) ?_
        refine jr_isub dX9_worked_145 ?_
        refine jr_iald (dpF s t k - 1 - 1) (hw1.k rfl) (sub1 (by omega)) ⟨by omega, by decide⟩ dX9_worked_146 ?_
        refine jr_aload_n dX9_worked_147 rfl ?_
        refine gfX9_55 94 dX9_worked_148 (hw1.k rfl) (hw1.f rfl) ?_
        refine jr_iload_n dX9_worked_151 rfl ?_
        refine jr_iald (dpF s t k - 1) (hw1.k rfl) rfl ⟨by omega, by decide⟩ dX9_worked_152 ?_
        refine jc_Si (c_mjoined g _ _ _ _) lkX9_292 rfl rfl (Nat.le_of_ble_eq_true rfl) (Nat.le_of_ble_eq_true rfl) dX9_worked_153 (fun r_153 w_153 h_153 => ?_)
        obtain ⟨rfl, rfl⟩ := h_153
        refine jr_iast (dpF s t k - 1 - 1) (hw1.k rfl) (sub1 (by omega)) ⟨by omega, by decide⟩ dX9_worked_156 ?_
        refine jr_iinc_3 (nI (k + 1)) dX9_worked_157 (inc1 k) (by decide) rfl ?_
        refine jr_goto 4 dX9_worked_160 (by decide) ?_
        exact ih (k + 1) _ _ _ _ hd2.symm (by omega) (hS.tr (Sm.sR rfl)) (by rw [wI_sR_s]; exact hP2)
  refine jr_iconst (0) dX9_worked_0 (by decide) ?_
  refine jr_istore_2 dX9_worked_1 (by decide) rfl ?_
  refine jr_iconst (0) dX9_worked_2 (by decide) ?_
  refine jr_istore_3 dX9_worked_3 (by decide) rfl ?_
  exact L _ 0 0 w none none rfl rfl Sm.rf trivial
