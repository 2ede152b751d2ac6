-- texts of the class
def nmC (v : Int32) : Int32 := if v = 111 ∨ v = 101 then -1 else if v = 116 ∨ v = 109 then -2 else -3
def nmV (x y z v : Int32) : Int32 := if v = 111 ∨ v = 101 then x else if v = 116 ∨ v = 109 then y else z
/-- a step of a text as the class keeps it -/
def encF (what v : Int32) : Int32 := if what.toInt = 0 then v else if what.toInt = 1 then nmC v else -v
/-- the Text at b is text t of the row s -/
def TxR (w : Wd) (b : Nat) (s : Nat → Int32) (t : Nat) : Prop :=
  (98 ≤ b ∧ b % 3 = 2) ∧ jK w b 5 0 ∧ jK w (b + 1) 11 (tMany s t) ∧ jK w (b + 2) 11 (tMany s t + 1) ∧ wF w b 2 = some (b + 1) ∧ wF w b 3 = some (b + 2) ∧ wI w b 0 = s (40 + 200 * t) ∧ wI w b 1 = s (40 + 200 * t + 1) ∧
  ∀ k, k < tMany s t → wI w (b + 1) k = encF (s (40 + 200 * t + 4 + 2 * k)) (s (40 + 200 * t + 4 + 2 * k + 1))
theorem TxR.sm {w w' : Wd} {b : Nat} {s : Nat → Int32} {t : Nat} {S : Nat → Prop} (h : TxR w b s t) (hS : Sm S w w') (hn : ∀ i, 98 ≤ i → ¬ i % 3 = 1 → ¬ S i) : TxR w' b s t := by
  obtain ⟨⟨h0, h0'⟩, h1, h2, h3, h4, h5, h6, h7, h8⟩ := h
  have e1 : wI w' b = wI w b := hS.row (hn b h0 (by omega))
  have e2 : wI w' (b + 1) = wI w (b + 1) := hS.row (hn (b + 1) (by omega) (by omega))
  have e3 : wF w' = wF w := hS.F
  exact ⟨⟨h0, h0'⟩, hS.K.mpr h1, hS.K.mpr h2, hS.K.mpr h3, by rw [e3]; exact h4, by rw [e3]; exact h5, by rw [e1]; exact h6, by rw [e1]; exact h7, fun k hk => by rw [e2]; exact h8 k hk⟩
theorem c_joined (g : Cx) (w : Wd) (c x y : Int32) (hc : SgS c) : CI g yX5_joined cX5_joined 3 (some .int) 1 0 0 [.int c, .int x, .int y] w (fun r w' => r = jnF c x y ∧ w = w') := by
  have hc2 : c.toInt = 38 ∨ c.toInt = 42 ∨ c.toInt = 43 ∨ c.toInt = 45 ∨ c.toInt = 47 ∨ c.toInt = 60 ∨ c.toInt = 61 ∨ c.toInt = 62 ∨ c.toInt = 124 := by
    rcases hc with rfl | rfl | rfl | rfl | rfl | rfl | rfl | rfl | rfl <;> decide
  refine CI.of (own := RX5) (nm := "joined") (lv := [some (.int c), some (.int x), some (.int y)]) (by decide) rfl rfl (Nat.le_of_ble_eq_true rfl) rfl (fun Q hQ => ?_)
  refine jr_iload_n dX5_joined_0 rfl ?_
  refine swX5_joined_1 (fun c_1 => ?_) (fun c_1 => ?_) (fun c_1 => ?_) (fun c_1 => ?_) (fun c_1 => ?_) (fun c_1 => ?_) (fun c_1 => ?_) (fun c_1 => ?_) (fun c_1 => ?_)
  · refine jr_iload_n dX5_joined_90 rfl ?_
    refine jr_if_eq 102 dX5_joined_91 (by decide) (fun c_91 => ?_) (fun c_91 => ?_)
    · refine jr_iconst (0) dX5_joined_102 (by decide) ?_
      refine jr_iret rfl dX5_joined_103 ?_
      refine hQ _ _ ⟨?_, rfl⟩
      simp only [jnF, c_1, ne_eq, Int.reduceEq, if_true, if_false]
      first | done | (rw [if_pos c_150]; done) | (rw [if_neg c_150]; done) | exact jb_f' (fun h => h.1 c_91) | exact jb_f' (fun h => h.2 c_95) | exact jb_t' ⟨c_91, c_95⟩ | exact jb_t' (Or.inl c_77) | exact jb_t' (Or.inr c_81) | exact jb_f' (fun h => h.elim (fun q => q (Decidable.not_not.mp c_77)) (fun q => q c_81)) | exact jb_f' (fun h => h.elim (fun q => q c_77) (fun q => q c_81)) | exact jb_t' (by omega) | exact jb_f' (by omega)
    · refine jr_iload_n dX5_joined_94 rfl ?_
      refine jr_if_eq 102 dX5_joined_95 (by decide) (fun c_95 => ?_) (fun c_95 => ?_)
      · refine jr_iconst (0) dX5_joined_102 (by decide) ?_
        refine jr_iret rfl dX5_joined_103 ?_
        refine hQ _ _ ⟨?_, rfl⟩
        simp only [jnF, c_1, ne_eq, Int.reduceEq, if_true, if_false]
        first | done | (rw [if_pos c_150]; done) | (rw [if_neg c_150]; done) | exact jb_f' (fun h => h.1 c_91) | exact jb_f' (fun h => h.2 c_95) | exact jb_t' ⟨c_91, c_95⟩ | exact jb_t' (Or.inl c_77) | exact jb_t' (Or.inr c_81) | exact jb_f' (fun h => h.elim (fun q => q (Decidable.not_not.mp c_77)) (fun q => q c_81)) | exact jb_f' (fun h => h.elim (fun q => q c_77) (fun q => q c_81)) | exact jb_t' (by omega) | exact jb_f' (by omega)
      · refine jr_iconst (1) dX5_joined_98 (by decide) ?_
        refine jr_goto 103 dX5_joined_99 (by decide) ?_
        refine jr_iret rfl dX5_joined_103 ?_
        refine hQ _ _ ⟨?_, rfl⟩
        simp only [jnF, c_1, ne_eq, Int.reduceEq, if_true, if_false]
        first | done | (rw [if_pos c_150]; done) | (rw [if_neg c_150]; done) | exact jb_f' (fun h => h.1 c_91) | exact jb_f' (fun h => h.2 c_95) | exact jb_t' ⟨c_91, c_95⟩ | exact jb_t' (Or.inl c_77) | exact jb_t' (Or.inr c_81) | exact jb_f' (fun h => h.elim (fun q => q (Decidable.not_not.mp c_77)) (fun q => q c_81)) | exact jb_f' (fun h => h.elim (fun q => q c_77) (fun q => q c_81)) | exact jb_t' (by omega) | exact jb_f' (by omega)
  · refine jr_iload_n dX5_joined_145 rfl ?_
    refine jr_iload_n dX5_joined_146 rfl ?_
    refine jr_imul dX5_joined_147 ?_
    refine jr_iret rfl dX5_joined_148 ?_
    refine hQ _ _ ⟨?_, rfl⟩
    simp only [jnF, c_1, ne_eq, Int.reduceEq, if_true, if_false]
    first | done | (rw [if_pos c_150]; done) | (rw [if_neg c_150]; done) | exact jb_f' (fun h => h.1 c_91) | exact jb_f' (fun h => h.2 c_95) | exact jb_t' ⟨c_91, c_95⟩ | exact jb_t' (Or.inl c_77) | exact jb_t' (Or.inr c_81) | exact jb_f' (fun h => h.elim (fun q => q (Decidable.not_not.mp c_77)) (fun q => q c_81)) | exact jb_f' (fun h => h.elim (fun q => q c_77) (fun q => q c_81)) | exact jb_t' (by omega) | exact jb_f' (by omega)
  · refine jr_iload_n dX5_joined_137 rfl ?_
    refine jr_iload_n dX5_joined_138 rfl ?_
    refine jr_iadd dX5_joined_139 ?_
    refine jr_iret rfl dX5_joined_140 ?_
    refine hQ _ _ ⟨?_, rfl⟩
    simp only [jnF, c_1, ne_eq, Int.reduceEq, if_true, if_false]
    first | done | (rw [if_pos c_150]; done) | (rw [if_neg c_150]; done) | exact jb_f' (fun h => h.1 c_91) | exact jb_f' (fun h => h.2 c_95) | exact jb_t' ⟨c_91, c_95⟩ | exact jb_t' (Or.inl c_77) | exact jb_t' (Or.inr c_81) | exact jb_f' (fun h => h.elim (fun q => q (Decidable.not_not.mp c_77)) (fun q => q c_81)) | exact jb_f' (fun h => h.elim (fun q => q c_77) (fun q => q c_81)) | exact jb_t' (by omega) | exact jb_f' (by omega)
  · refine jr_iload_n dX5_joined_141 rfl ?_
    refine jr_iload_n dX5_joined_142 rfl ?_
    refine jr_isub dX5_joined_143 ?_
    refine jr_iret rfl dX5_joined_144 ?_
    refine hQ _ _ ⟨?_, rfl⟩
    simp only [jnF, c_1, ne_eq, Int.reduceEq, if_true, if_false]
    first | done | (rw [if_pos c_150]; done) | (rw [if_neg c_150]; done) | exact jb_f' (fun h => h.1 c_91) | exact jb_f' (fun h => h.2 c_95) | exact jb_t' ⟨c_91, c_95⟩ | exact jb_t' (Or.inl c_77) | exact jb_t' (Or.inr c_81) | exact jb_f' (fun h => h.elim (fun q => q (Decidable.not_not.mp c_77)) (fun q => q c_81)) | exact jb_f' (fun h => h.elim (fun q => q c_77) (fun q => q c_81)) | exact jb_t' (by omega) | exact jb_f' (by omega)
  · refine jr_iload_n dX5_joined_104 rfl ?_
    refine jr_iload_n dX5_joined_105 rfl ?_
    refine jr_icmp_ge 113 dX5_joined_106 (by decide) (fun c_106 => ?_) (fun c_106 => ?_)
    · simp only [lt_i, le_i, eq_i, Int32.reduceToInt] at c_106
      refine jr_iconst (0) dX5_joined_113 (by decide) ?_
      refine jr_iret rfl dX5_joined_114 ?_
      refine hQ _ _ ⟨?_, rfl⟩
      simp only [jnF, c_1, ne_eq, Int.reduceEq, if_true, if_false]
      first | done | (rw [if_pos c_150]; done) | (rw [if_neg c_150]; done) | exact jb_f' (fun h => h.1 c_91) | exact jb_f' (fun h => h.2 c_95) | exact jb_t' ⟨c_91, c_95⟩ | exact jb_t' (Or.inl c_77) | exact jb_t' (Or.inr c_81) | exact jb_f' (fun h => h.elim (fun q => q (Decidable.not_not.mp c_77)) (fun q => q c_81)) | exact jb_f' (fun h => h.elim (fun q => q c_77) (fun q => q c_81)) | exact jb_t' (by omega) | exact jb_f' (by omega)
    · simp only [lt_i, le_i, eq_i, Int32.reduceToInt] at c_106
      refine jr_iconst (1) dX5_joined_109 (by decide) ?_
      refine jr_goto 114 dX5_joined_110 (by decide) ?_
      refine jr_iret rfl dX5_joined_114 ?_
      refine hQ _ _ ⟨?_, rfl⟩
      simp only [jnF, c_1, ne_eq, Int.reduceEq, if_true, if_false]
      first | done | (rw [if_pos c_150]; done) | (rw [if_neg c_150]; done) | exact jb_f' (fun h => h.1 c_91) | exact jb_f' (fun h => h.2 c_95) | exact jb_t' ⟨c_91, c_95⟩ | exact jb_t' (Or.inl c_77) | exact jb_t' (Or.inr c_81) | exact jb_f' (fun h => h.elim (fun q => q (Decidable.not_not.mp c_77)) (fun q => q c_81)) | exact jb_f' (fun h => h.elim (fun q => q c_77) (fun q => q c_81)) | exact jb_t' (by omega) | exact jb_f' (by omega)
  · refine jr_iload_n dX5_joined_115 rfl ?_
    refine jr_iload_n dX5_joined_116 rfl ?_
    refine jr_icmp_ne 124 dX5_joined_117 (by decide) (fun c_117 => ?_) (fun c_117 => ?_)
    · simp only [lt_i, le_i, eq_i, Int32.reduceToInt] at c_117
      refine jr_iconst (0) dX5_joined_124 (by decide) ?_
      refine jr_iret rfl dX5_joined_125 ?_
      refine hQ _ _ ⟨?_, rfl⟩
      simp only [jnF, c_1, ne_eq, Int.reduceEq, if_true, if_false]
      first | done | (rw [if_pos c_150]; done) | (rw [if_neg c_150]; done) | exact jb_f' (fun h => h.1 c_91) | exact jb_f' (fun h => h.2 c_95) | exact jb_t' ⟨c_91, c_95⟩ | exact jb_t' (Or.inl c_77) | exact jb_t' (Or.inr c_81) | exact jb_f' (fun h => h.elim (fun q => q (Decidable.not_not.mp c_77)) (fun q => q c_81)) | exact jb_f' (fun h => h.elim (fun q => q c_77) (fun q => q c_81)) | exact jb_t' (by omega) | exact jb_f' (by omega)
    · simp only [lt_i, le_i, eq_i, Int32.reduceToInt] at c_117
      refine jr_iconst (1) dX5_joined_120 (by decide) ?_
      refine jr_goto 125 dX5_joined_121 (by decide) ?_
      refine jr_iret rfl dX5_joined_125 ?_
      refine hQ _ _ ⟨?_, rfl⟩
      simp only [jnF, c_1, ne_eq, Int.reduceEq, if_true, if_false]
      first | done | (rw [if_pos c_150]; done) | (rw [if_neg c_150]; done) | exact jb_f' (fun h => h.1 c_91) | exact jb_f' (fun h => h.2 c_95) | exact jb_t' ⟨c_91, c_95⟩ | exact jb_t' (Or.inl c_77) | exact jb_t' (Or.inr c_81) | exact jb_f' (fun h => h.elim (fun q => q (Decidable.not_not.mp c_77)) (fun q => q c_81)) | exact jb_f' (fun h => h.elim (fun q => q c_77) (fun q => q c_81)) | exact jb_t' (by omega) | exact jb_f' (by omega)
  · refine jr_iload_n dX5_joined_126 rfl ?_
    refine jr_iload_n dX5_joined_127 rfl ?_
    refine jr_icmp_le 135 dX5_joined_128 (by decide) (fun c_128 => ?_) (fun c_128 => ?_)
    · simp only [lt_i, le_i, eq_i, Int32.reduceToInt] at c_128
      refine jr_iconst (0) dX5_joined_135 (by decide) ?_
      refine jr_iret rfl dX5_joined_136 ?_
      refine hQ _ _ ⟨?_, rfl⟩
      simp only [jnF, c_1, ne_eq, Int.reduceEq, if_true, if_false]
      first | done | (rw [if_pos c_150]; done) | (rw [if_neg c_150]; done) | exact jb_f' (fun h => h.1 c_91) | exact jb_f' (fun h => h.2 c_95) | exact jb_t' ⟨c_91, c_95⟩ | exact jb_t' (Or.inl c_77) | exact jb_t' (Or.inr c_81) | exact jb_f' (fun h => h.elim (fun q => q (Decidable.not_not.mp c_77)) (fun q => q c_81)) | exact jb_f' (fun h => h.elim (fun q => q c_77) (fun q => q c_81)) | exact jb_t' (by omega) | exact jb_f' (by omega)
    · simp only [lt_i, le_i, eq_i, Int32.reduceToInt] at c_128
      refine jr_iconst (1) dX5_joined_131 (by decide) ?_
      refine jr_goto 136 dX5_joined_132 (by decide) ?_
      refine jr_iret rfl dX5_joined_136 ?_
      refine hQ _ _ ⟨?_, rfl⟩
      simp only [jnF, c_1, ne_eq, Int.reduceEq, if_true, if_false]
      first | done | (rw [if_pos c_150]; done) | (rw [if_neg c_150]; done) | exact jb_f' (fun h => h.1 c_91) | exact jb_f' (fun h => h.2 c_95) | exact jb_t' ⟨c_91, c_95⟩ | exact jb_t' (Or.inl c_77) | exact jb_t' (Or.inr c_81) | exact jb_f' (fun h => h.elim (fun q => q (Decidable.not_not.mp c_77)) (fun q => q c_81)) | exact jb_f' (fun h => h.elim (fun q => q c_77) (fun q => q c_81)) | exact jb_t' (by omega) | exact jb_f' (by omega)
  · refine jr_iload_n dX5_joined_76 rfl ?_
    refine jr_if_ne 84 dX5_joined_77 (by decide) (fun c_77 => ?_) (fun c_77 => ?_)
    · refine jr_iconst (1) dX5_joined_84 (by decide) ?_
      refine jr_goto 89 dX5_joined_85 (by decide) ?_
      refine jr_iret rfl dX5_joined_89 ?_
      refine hQ _ _ ⟨?_, rfl⟩
      simp only [jnF, c_1, ne_eq, Int.reduceEq, if_true, if_false]
      first | done | (rw [if_pos c_150]; done) | (rw [if_neg c_150]; done) | exact jb_f' (fun h => h.1 c_91) | exact jb_f' (fun h => h.2 c_95) | exact jb_t' ⟨c_91, c_95⟩ | exact jb_t' (Or.inl c_77) | exact jb_t' (Or.inr c_81) | exact jb_f' (fun h => h.elim (fun q => q (Decidable.not_not.mp c_77)) (fun q => q c_81)) | exact jb_f' (fun h => h.elim (fun q => q c_77) (fun q => q c_81)) | exact jb_t' (by omega) | exact jb_f' (by omega)
    · refine jr_iload_n dX5_joined_80 rfl ?_
      refine jr_if_eq 88 dX5_joined_81 (by decide) (fun c_81 => ?_) (fun c_81 => ?_)
      · refine jr_iconst (0) dX5_joined_88 (by decide) ?_
        refine jr_iret rfl dX5_joined_89 ?_
        refine hQ _ _ ⟨?_, rfl⟩
        simp only [jnF, c_1, ne_eq, Int.reduceEq, if_true, if_false]
        first | done | (rw [if_pos c_150]; done) | (rw [if_neg c_150]; done) | exact jb_f' (fun h => h.1 c_91) | exact jb_f' (fun h => h.2 c_95) | exact jb_t' ⟨c_91, c_95⟩ | exact jb_t' (Or.inl c_77) | exact jb_t' (Or.inr c_81) | exact jb_f' (fun h => h.elim (fun q => q (Decidable.not_not.mp c_77)) (fun q => q c_81)) | exact jb_f' (fun h => h.elim (fun q => q c_77) (fun q => q c_81)) | exact jb_t' (by omega) | exact jb_f' (by omega)
      · refine jr_iconst (1) dX5_joined_84 (by decide) ?_
        refine jr_goto 89 dX5_joined_85 (by decide) ?_
        refine jr_iret rfl dX5_joined_89 ?_
        refine hQ _ _ ⟨?_, rfl⟩
        simp only [jnF, c_1, ne_eq, Int.reduceEq, if_true, if_false]
        first | done | (rw [if_pos c_150]; done) | (rw [if_neg c_150]; done) | exact jb_f' (fun h => h.1 c_91) | exact jb_f' (fun h => h.2 c_95) | exact jb_t' ⟨c_91, c_95⟩ | exact jb_t' (Or.inl c_77) | exact jb_t' (Or.inr c_81) | exact jb_f' (fun h => h.elim (fun q => q (Decidable.not_not.mp c_77)) (fun q => q c_81)) | exact jb_f' (fun h => h.elim (fun q => q c_77) (fun q => q c_81)) | exact jb_t' (by omega) | exact jb_f' (by omega)
  · have c_1 : c.toInt = 47 := by omega
    refine jr_iload_n dX5_joined_149 rfl ?_
    refine jr_if_ne 157 dX5_joined_150 (by decide) (fun c_150 => ?_) (fun c_150 => ?_)
    · refine jr_iload_n dX5_joined_157 rfl ?_
      refine jr_iload_n dX5_joined_158 rfl ?_
      refine jr_idiv dX5_joined_159 c_150 ?_
      refine jr_iret rfl dX5_joined_160 ?_
      refine hQ _ _ ⟨?_, rfl⟩
      simp only [jnF, c_1, ne_eq, Int.reduceEq, if_true, if_false]
      first | done | (rw [if_pos c_150]; done) | (rw [if_neg c_150]; done) | exact jb_f' (fun h => h.1 c_91) | exact jb_f' (fun h => h.2 c_95) | exact jb_t' ⟨c_91, c_95⟩ | exact jb_t' (Or.inl c_77) | exact jb_t' (Or.inr c_81) | exact jb_f' (fun h => h.elim (fun q => q (Decidable.not_not.mp c_77)) (fun q => q c_81)) | exact jb_f' (fun h => h.elim (fun q => q c_77) (fun q => q c_81)) | exact jb_t' (by omega) | exact jb_f' (by omega)
    · refine jr_iconst (0) dX5_joined_153 (by decide) ?_
      refine jr_goto 160 dX5_joined_154 (by decide) ?_
      refine jr_iret rfl dX5_joined_160 ?_
      refine hQ _ _ ⟨?_, rfl⟩
      simp only [jnF, c_1, ne_eq, Int.reduceEq, if_true, if_false]
      first | done | (rw [if_pos c_150]; done) | (rw [if_neg c_150]; done) | exact jb_f' (fun h => h.1 c_91) | exact jb_f' (fun h => h.2 c_95) | exact jb_t' ⟨c_91, c_95⟩ | exact jb_t' (Or.inl c_77) | exact jb_t' (Or.inr c_81) | exact jb_f' (fun h => h.elim (fun q => q (Decidable.not_not.mp c_77)) (fun q => q c_81)) | exact jb_f' (fun h => h.elim (fun q => q c_77) (fun q => q c_81)) | exact jb_t' (by omega) | exact jb_f' (by omega)
theorem c_value (g : Cx) (w : Wd) (s : Nat → Int32) (t b : Nat) (hT : TxOk s t) (hB : TxR w b s t) (x y z : Int32) : CI g yX5_value cX5_value 7 (some .int) 2 0 0 [.ref (gb g + b), .int x, .int y, .int z] w (fun r w' => r = evF s t (nmV x y z) ∧ Sm (fun i => i = b + 2) w w') := by
  obtain ⟨-, hM, hV, hD⟩ := id hT
  have hN : tMany s t ≤ 93 := hM.2
  obtain ⟨-, k5, k1, k2, f2, f3, -, -, hE⟩ := id hB
  refine CI.of (own := RX5) (nm := "value") (lv := [some (.ref (gb g + b)), some (.int x), some (.int y), some (.int z), none, none, none]) (by decide) rfl rfl (Nat.le_of_ble_eq_true rfl) rfl (fun Q hQ => ?_)
  have L : ∀ (f k n : Nat) (w1 : Wd) (a6 : Option Value), n = dpF s t k → f + k = tMany s t → Sm (fun i => i = b + 2) w w1 → PR (wkF s t (nmV x y z) k) (wI w1 (b + 2)) → RR g RX5 cX5_value 7 (some .int) "value" 2 0 0 0 0 6 [some (.ref (gb g + b)), some (.int x), some (.int y), some (.int z), some (.int (nI n)), some (.int (nI k)), a6] [] w1 Q := by
    intro f
    induction f with
    | zero =>
      intro k n w1 a6 hn hk hS hP
      subst hn
      have e : k = tMany s t := by omega
      subst e
      refine jr_iload dX5_value_6 rfl ?_
      refine jr_aload_n dX5_value_8 rfl ?_
      refine gfX5_16 (b + 1) dX5_value_9 (hS.K.mpr k5) (by rw [hS.F]; exact f2) ?_
      refine jr_alen (hS.K.mpr k1) (by decide) dX5_value_12 ?_
      refine jr_icmp_ge 185 dX5_value_13 (by decide) (fun c_13 => ?_) (fun c_13 => absurd (Int32.le_refl _) c_13)
      refine jr_aload_n dX5_value_185 rfl ?_
      refine gfX5_20 (b + 2) dX5_value_186 (hS.K.mpr k5) (by rw [hS.F]; exact f3) ?_
      refine jr_iconst (0) dX5_value_189 (by decide) ?_
      refine jr_iald 0 (hS.K.mpr k2) rfl ⟨by omega, by omega⟩ dX5_value_190 ?_
      refine jr_iret rfl dX5_value_191 ?_
      exact hQ _ _ ⟨hP.bottom (by rw [wk_len hV _ _ (Nat.le_refl _)]; exact hD), hS⟩
    | succ f ih =>
      intro k n w1 a6 hn hk hS hP
      subst hn
      have hdk := dp_le s t k
      have hr1 : wI w1 (b + 1) = wI w (b + 1) := hS.row (by omega)
      have hst := hE k (by omega)
      rw [← hr1] at hst
      have hgo : ¬ nI (tMany s t) ≤ nI k := nI_ge (by omega) (by omega)
      have hgo2 : ¬ nI (tMany s t + 1) ≤ nI (dpF s t k) := nI_ge (by omega) (by omega)
      rcases hV k (by omega) with ⟨h1, h2⟩ | ⟨h1, h2⟩ | ⟨h1, h2, h3⟩ | ⟨h1, h2, h3⟩
      · obtain ⟨hP2, hd2⟩ := PR_num hV (by omega) h1 hP
        rw [encF, if_pos h1] at hst
        have h9 := fun w2 hS2 hP3 => ih (k + 1) _ w2 (some (.int (s (40 + 200 * t + 4 + 2 * k + 1)))) rfl (by omega) hS2 hP3
        refine jr_iload dX5_value_6 rfl ?_
        refine jr_aload_n dX5_value_8 rfl ?_
        refine gfX5_16 (b + 1) dX5_value_9 (hS.K.mpr k5) (by rw [hS.F]; exact f2) ?_
        refine jr_alen (hS.K.mpr k1) (by decide) dX5_value_12 ?_
        refine jr_icmp_ge 185 dX5_value_13 (by decide) (fun c_13 => absurd c_13 hgo) (fun c_13 => ?_)
        refine jr_iload dX5_value_16 rfl ?_
        refine jr_aload_n dX5_value_18 rfl ?_
        refine gfX5_20 (b + 2) dX5_value_19 (hS.K.mpr k5) (by rw [hS.F]; exact f3) ?_
        refine jr_alen (hS.K.mpr k2) (by decide) dX5_value_22 ?_
        refine jr_icmp_ge 185 dX5_value_23 (by decide) (fun c_23 => absurd c_23 hgo2) (fun c_23 => ?_)
        refine jr_aload_n dX5_value_26 rfl ?_
        refine gfX5_16 (b + 1) dX5_value_27 (hS.K.mpr k5) (by rw [hS.F]; exact f2) ?_
        refine jr_iload dX5_value_30 rfl ?_
        refine jr_iald k (hS.K.mpr k1) rfl ⟨by omega, by omega⟩ dX5_value_32 ?_
        rw [hst]
        refine jr_istore_6 dX5_value_33 (by decide) rfl ?_
        refine jr_iload dX5_value_35 rfl ?_
        refine jr_if_lt 55 dX5_value_37 (by decide) (fun c_37 => absurd c_37 (by rw [lt_i]; simp only [Int32.reduceToInt]; omega)) (fun c_37 => ?_)
        refine jr_aload_n dX5_value_40 rfl ?_
        refine gfX5_20 (b + 2) dX5_value_41 (hS.K.mpr k5) (by rw [hS.F]; exact f3) ?_
        refine jr_iload dX5_value_44 rfl ?_
        refine jr_iload dX5_value_46 rfl ?_
        refine jr_iast (dpF s t k) (hS.K.mpr k2) rfl ⟨by omega, by omega⟩ dX5_value_48 ?_
        refine jr_iinc_4 (nI (dpF s t (k + 1))) dX5_value_49 (by rw [inc1, hd2]) (by decide) rfl ?_
        refine jr_goto 179 dX5_value_52 (by decide) ?_
        refine jr_iinc_5 (nI (k + 1)) dX5_value_179 (inc1 k) (by decide) rfl ?_
        refine jr_goto 6 dX5_value_182 (by decide) ?_
        exact h9 _ (hS.tr (Sm.sR rfl)) (by rw [wI_sR_s]; exact hP2)
      · obtain ⟨hP2, hd2⟩ := PR_name hV (by omega) h1 hP
        have h8 : ¬ (s (40 + 200 * t + 4 + 2 * k)).toInt = 0 := by omega
        rw [encF, if_neg h8, if_pos h1] at hst
        have hc : (nmC (s (40 + 200 * t + 4 + 2 * k + 1)) = -1 ∧ nmV x y z (s (40 + 200 * t + 4 + 2 * k + 1)) = x) ∨ (nmC (s (40 + 200 * t + 4 + 2 * k + 1)) = -2 ∧ nmV x y z (s (40 + 200 * t + 4 + 2 * k + 1)) = y) ∨ (nmC (s (40 + 200 * t + 4 + 2 * k + 1)) = -3 ∧ nmV x y z (s (40 + 200 * t + 4 + 2 * k + 1)) = z) := by
          unfold nmC nmV
          by_cases c1 : s (40 + 200 * t + 4 + 2 * k + 1) = 111 ∨ s (40 + 200 * t + 4 + 2 * k + 1) = 101
          · rw [if_pos c1, if_pos c1]; exact Or.inl ⟨rfl, rfl⟩
          · rw [if_neg c1, if_neg c1]
            by_cases c2 : s (40 + 200 * t + 4 + 2 * k + 1) = 116 ∨ s (40 + 200 * t + 4 + 2 * k + 1) = 109
            · rw [if_pos c2, if_pos c2]; exact Or.inr (Or.inl ⟨rfl, rfl⟩)
            · rw [if_neg c2, if_neg c2]; exact Or.inr (Or.inr ⟨rfl, rfl⟩)
        rcases hc with ⟨hc1, hc2⟩ | ⟨hc1, hc2⟩ | ⟨hc1, hc2⟩
        · rw [hc1] at hst
          rw [hc2] at hP2
          refine jr_iload dX5_value_6 rfl ?_
          refine jr_aload_n dX5_value_8 rfl ?_
          refine gfX5_16 (b + 1) dX5_value_9 (hS.K.mpr k5) (by rw [hS.F]; exact f2) ?_
          refine jr_alen (hS.K.mpr k1) (by decide) dX5_value_12 ?_
          refine jr_icmp_ge 185 dX5_value_13 (by decide) (fun c_13 => absurd c_13 hgo) (fun c_13 => ?_)
          refine jr_iload dX5_value_16 rfl ?_
          refine jr_aload_n dX5_value_18 rfl ?_
          refine gfX5_20 (b + 2) dX5_value_19 (hS.K.mpr k5) (by rw [hS.F]; exact f3) ?_
          refine jr_alen (hS.K.mpr k2) (by decide) dX5_value_22 ?_
          refine jr_icmp_ge 185 dX5_value_23 (by decide) (fun c_23 => absurd c_23 hgo2) (fun c_23 => ?_)
          refine jr_aload_n dX5_value_26 rfl ?_
          refine gfX5_16 (b + 1) dX5_value_27 (hS.K.mpr k5) (by rw [hS.F]; exact f2) ?_
          refine jr_iload dX5_value_30 rfl ?_
          refine jr_iald k (hS.K.mpr k1) rfl ⟨by omega, by omega⟩ dX5_value_32 ?_
          rw [hst]
          refine jr_istore_6 dX5_value_33 (by decide) rfl ?_
          refine jr_iload dX5_value_35 rfl ?_
          refine jr_if_lt 55 dX5_value_37 (by decide) (fun c_37 => ?_) (fun c_37 => absurd (by decide) c_37)
          refine jr_iload dX5_value_55 rfl ?_
          refine jr_bipush (-3) dX5_value_57 (by decide) ?_
          refine jr_icmp_lt 97 dX5_value_59 (by decide) (fun c_59 => absurd c_59 (by decide)) (fun c_59 => ?_)
          refine jr_aload_n dX5_value_62 rfl ?_
          refine gfX5_20 (b + 2) dX5_value_63 (hS.K.mpr k5) (by rw [hS.F]; exact f3) ?_
          refine jr_iload dX5_value_66 rfl ?_
          refine jr_iload dX5_value_68 rfl ?_
          refine jr_iconst (-1) dX5_value_70 (by decide) ?_
          refine jr_icmp_ne 78 dX5_value_71 (by decide) (fun c_71 => absurd (by decide) c_71) (fun c_71 => ?_)
          refine jr_iload_n dX5_value_74 rfl ?_
          refine jr_goto 90 dX5_value_75 (by decide) ?_
          refine jr_iast (dpF s t k) (hS.K.mpr k2) rfl ⟨by omega, by omega⟩ dX5_value_90 ?_
          refine jr_iinc_4 (nI (dpF s t (k + 1))) dX5_value_91 (by rw [inc1, hd2]) (by decide) rfl ?_
          refine jr_goto 179 dX5_value_94 (by decide) ?_
          refine jr_iinc_5 (nI (k + 1)) dX5_value_179 (inc1 k) (by decide) rfl ?_
          refine jr_goto 6 dX5_value_182 (by decide) ?_
          exact ih (k + 1) _ _ _ rfl (by omega) (hS.tr (Sm.sR rfl)) (by rw [wI_sR_s]; exact hP2)
        · rw [hc1] at hst
          rw [hc2] at hP2
          refine jr_iload dX5_value_6 rfl ?_
          refine jr_aload_n dX5_value_8 rfl ?_
          refine gfX5_16 (b + 1) dX5_value_9 (hS.K.mpr k5) (by rw [hS.F]; exact f2) ?_
          refine jr_alen (hS.K.mpr k1) (by decide) dX5_value_12 ?_
          refine jr_icmp_ge 185 dX5_value_13 (by decide) (fun c_13 => absurd c_13 hgo) (fun c_13 => ?_)
          refine jr_iload dX5_value_16 rfl ?_
          refine jr_aload_n dX5_value_18 rfl ?_
          refine gfX5_20 (b + 2) dX5_value_19 (hS.K.mpr k5) (by rw [hS.F]; exact f3) ?_
          refine jr_alen (hS.K.mpr k2) (by decide) dX5_value_22 ?_
          refine jr_icmp_ge 185 dX5_value_23 (by decide) (fun c_23 => absurd c_23 hgo2) (fun c_23 => ?_)
          refine jr_aload_n dX5_value_26 rfl ?_
          refine gfX5_16 (b + 1) dX5_value_27 (hS.K.mpr k5) (by rw [hS.F]; exact f2) ?_
          refine jr_iload dX5_value_30 rfl ?_
          refine jr_iald k (hS.K.mpr k1) rfl ⟨by omega, by omega⟩ dX5_value_32 ?_
          rw [hst]
          refine jr_istore_6 dX5_value_33 (by decide) rfl ?_
          refine jr_iload dX5_value_35 rfl ?_
          refine jr_if_lt 55 dX5_value_37 (by decide) (fun c_37 => ?_) (fun c_37 => absurd (by decide) c_37)
          refine jr_iload dX5_value_55 rfl ?_
          refine jr_bipush (-3) dX5_value_57 (by decide) ?_
          refine jr_icmp_lt 97 dX5_value_59 (by decide) (fun c_59 => absurd c_59 (by decide)) (fun c_59 => ?_)
          refine jr_aload_n dX5_value_62 rfl ?_
          refine gfX5_20 (b + 2) dX5_value_63 (hS.K.mpr k5) (by rw [hS.F]; exact f3) ?_
          refine jr_iload dX5_value_66 rfl ?_
          refine jr_iload dX5_value_68 rfl ?_
          refine jr_iconst (-1) dX5_value_70 (by decide) ?_
          refine jr_icmp_ne 78 dX5_value_71 (by decide) (fun c_71 => ?_) (fun c_71 => absurd c_71 (by decide))
          refine jr_iload dX5_value_78 rfl ?_
          refine jr_bipush (-2) dX5_value_80 (by decide) ?_
          refine jr_icmp_ne 89 dX5_value_82 (by decide) (fun c_82 => absurd (by decide) c_82) (fun c_82 => ?_)
          refine jr_iload_n dX5_value_85 rfl ?_
          refine jr_goto 90 dX5_value_86 (by decide) ?_
          refine jr_iast (dpF s t k) (hS.K.mpr k2) rfl ⟨by omega, by omega⟩ dX5_value_90 ?_
          refine jr_iinc_4 (nI (dpF s t (k + 1))) dX5_value_91 (by rw [inc1, hd2]) (by decide) rfl ?_
          refine jr_goto 179 dX5_value_94 (by decide) ?_
          refine jr_iinc_5 (nI (k + 1)) dX5_value_179 (inc1 k) (by decide) rfl ?_
          refine jr_goto 6 dX5_value_182 (by decide) ?_
          exact ih (k + 1) _ _ _ rfl (by omega) (hS.tr (Sm.sR rfl)) (by rw [wI_sR_s]; exact hP2)
        · rw [hc1] at hst
          rw [hc2] at hP2
          refine jr_iload dX5_value_6 rfl ?_
          refine jr_aload_n dX5_value_8 rfl ?_
          refine gfX5_16 (b + 1) dX5_value_9 (hS.K.mpr k5) (by rw [hS.F]; exact f2) ?_
          refine jr_alen (hS.K.mpr k1) (by decide) dX5_value_12 ?_
          refine jr_icmp_ge 185 dX5_value_13 (by decide) (fun c_13 => absurd c_13 hgo) (fun c_13 => ?_)
          refine jr_iload dX5_value_16 rfl ?_
          refine jr_aload_n dX5_value_18 rfl ?_
          refine gfX5_20 (b + 2) dX5_value_19 (hS.K.mpr k5) (by rw [hS.F]; exact f3) ?_
          refine jr_alen (hS.K.mpr k2) (by decide) dX5_value_22 ?_
          refine jr_icmp_ge 185 dX5_value_23 (by decide) (fun c_23 => absurd c_23 hgo2) (fun c_23 => ?_)
          refine jr_aload_n dX5_value_26 rfl ?_
          refine gfX5_16 (b + 1) dX5_value_27 (hS.K.mpr k5) (by rw [hS.F]; exact f2) ?_
          refine jr_iload dX5_value_30 rfl ?_
          refine jr_iald k (hS.K.mpr k1) rfl ⟨by omega, by omega⟩ dX5_value_32 ?_
          rw [hst]
          refine jr_istore_6 dX5_value_33 (by decide) rfl ?_
          refine jr_iload dX5_value_35 rfl ?_
          refine jr_if_lt 55 dX5_value_37 (by decide) (fun c_37 => ?_) (fun c_37 => absurd (by decide) c_37)
          refine jr_iload dX5_value_55 rfl ?_
          refine jr_bipush (-3) dX5_value_57 (by decide) ?_
          refine jr_icmp_lt 97 dX5_value_59 (by decide) (fun c_59 => absurd c_59 (by decide)) (fun c_59 => ?_)
          refine jr_aload_n dX5_value_62 rfl ?_
          refine gfX5_20 (b + 2) dX5_value_63 (hS.K.mpr k5) (by rw [hS.F]; exact f3) ?_
          refine jr_iload dX5_value_66 rfl ?_
          refine jr_iload dX5_value_68 rfl ?_
          refine jr_iconst (-1) dX5_value_70 (by decide) ?_
          refine jr_icmp_ne 78 dX5_value_71 (by decide) (fun c_71 => ?_) (fun c_71 => absurd c_71 (by decide))
          refine jr_iload dX5_value_78 rfl ?_
          refine jr_bipush (-2) dX5_value_80 (by decide) ?_
          refine jr_icmp_ne 89 dX5_value_82 (by decide) (fun c_82 => ?_) (fun c_82 => absurd c_82 (by decide))
          refine jr_iload_n dX5_value_89 rfl ?_
          refine jr_iast (dpF s t k) (hS.K.mpr k2) rfl ⟨by omega, by omega⟩ dX5_value_90 ?_
          refine jr_iinc_4 (nI (dpF s t (k + 1))) dX5_value_91 (by rw [inc1, hd2]) (by decide) rfl ?_
          refine jr_goto 179 dX5_value_94 (by decide) ?_
          refine jr_iinc_5 (nI (k + 1)) dX5_value_179 (inc1 k) (by decide) rfl ?_
          refine jr_goto 6 dX5_value_182 (by decide) ?_
          exact ih (k + 1) _ _ _ rfl (by omega) (hS.tr (Sm.sR rfl)) (by rw [wI_sR_s]; exact hP2)
      · obtain ⟨hP2, hd2⟩ := PR_not hV (by omega) h1 h2 h3 hP
        have h8 : ¬ (s (40 + 200 * t + 4 + 2 * k)).toInt = 0 := by omega
        have h7 : ¬ (s (40 + 200 * t + 4 + 2 * k)).toInt = 1 := by omega
        have e33 : s (40 + 200 * t + 4 + 2 * k + 1) = 33 := by rw [eq_i, h2]; rfl
        rw [encF, if_neg h8, if_neg h7, e33] at hst
        have e3 : (-33 : Int32).toInt = -33 := by decide
        refine jr_iload dX5_value_6 rfl ?_
        refine jr_aload_n dX5_value_8 rfl ?_
        refine gfX5_16 (b + 1) dX5_value_9 (hS.K.mpr k5) (by rw [hS.F]; exact f2) ?_
        refine jr_alen (hS.K.mpr k1) (by decide) dX5_value_12 ?_
        refine jr_icmp_ge 185 dX5_value_13 (by decide) (fun c_13 => absurd c_13 hgo) (fun c_13 => ?_)
        refine jr_iload dX5_value_16 rfl ?_
        refine jr_aload_n dX5_value_18 rfl ?_
        refine gfX5_20 (b + 2) dX5_value_19 (hS.K.mpr k5) (by rw [hS.F]; exact f3) ?_
        refine jr_alen (hS.K.mpr k2) (by decide) dX5_value_22 ?_
        refine jr_icmp_ge 185 dX5_value_23 (by decide) (fun c_23 => absurd c_23 hgo2) (fun c_23 => ?_)
        refine jr_aload_n dX5_value_26 rfl ?_
        refine gfX5_16 (b + 1) dX5_value_27 (hS.K.mpr k5) (by rw [hS.F]; exact f2) ?_
        refine jr_iload dX5_value_30 rfl ?_
        refine jr_iald k (hS.K.mpr k1) rfl ⟨by omega, by omega⟩ dX5_value_32 ?_
        rw [hst]
        refine jr_istore_6 dX5_value_33 (by decide) rfl ?_
        refine jr_iload dX5_value_35 rfl ?_
        refine jr_if_lt 55 dX5_value_37 (by decide) (fun c_37 => ?_) (fun c_37 => absurd (by decide) c_37)
        refine jr_iload dX5_value_55 rfl ?_
        refine jr_bipush (-3) dX5_value_57 (by decide) ?_
        refine jr_icmp_lt 97 dX5_value_59 (by decide) (fun c_59 => ?_) (fun c_59 => absurd (by decide) c_59)
        refine jr_iload dX5_value_97 rfl ?_
        refine jr_bipush (-33) dX5_value_99 (by decide) ?_
        refine jr_icmp_ne 139 dX5_value_101 (by decide) (fun c_101 => absurd (by decide) c_101) (fun c_101 => ?_)
        refine jr_iload dX5_value_104 rfl ?_
        refine jr_iconst (1) dX5_value_106 (by decide) ?_
        refine jr_icmp_lt 139 dX5_value_107 (by decide) (fun c_107 => absurd c_107 (by rw [jlit 1]; exact nI_nlt h3 (by omega))) (fun c_107 => ?_)
        refine jr_aload_n dX5_value_110 rfl ?_
        refine gfX5_20 (b + 2) dX5_value_111 (hS.K.mpr k5) (by rw [hS.F]; exact f3) ?_
        refine jr_iload dX5_value_114 rfl ?_
        refine jr_iconst (1) dX5_value_116 (by decide) ?_
        refine jr_isub dX5_value_117 ?_
        refine jr_aload_n dX5_value_118 rfl ?_
        refine gfX5_20 (b + 2) dX5_value_119 (hS.K.mpr k5) (by rw [hS.F]; exact f3) ?_
        refine jr_iload dX5_value_122 rfl ?_
        refine jr_iconst (1) dX5_value_124 (by decide) ?_
        refine jr_isub dX5_value_125 ?_
        refine jr_iald (dpF s t k - 1) (hS.K.mpr k2) (sub1 h3) ⟨by omega, by omega⟩ dX5_value_126 ?_
        refine jr_if_ne 134 dX5_value_127 (by decide) (fun c_127 => ?_) (fun c_127 => ?_)
        · refine jr_iconst (0) dX5_value_134 (by decide) ?_
          refine jr_iast (dpF s t k - 1) (hS.K.mpr k2) (sub1 h3) ⟨by omega, by omega⟩ dX5_value_135 ?_
          refine jr_goto 179 dX5_value_136 (by decide) ?_
          refine jr_iinc_5 (nI (k + 1)) dX5_value_179 (inc1 k) (by decide) rfl ?_
          refine jr_goto 6 dX5_value_182 (by decide) ?_
          first | rw [jb_t c_127] at hP2 | rw [jb_f c_127] at hP2 | rw [jb_t (Decidable.not_not.mp c_127)] at hP2
          exact ih (k + 1) _ _ _ hd2.symm (by omega) (hS.tr (Sm.sR rfl)) (by rw [wI_sR_s]; exact hP2)
        · refine jr_iconst (1) dX5_value_130 (by decide) ?_
          refine jr_goto 135 dX5_value_131 (by decide) ?_
          refine jr_iast (dpF s t k - 1) (hS.K.mpr k2) (sub1 h3) ⟨by omega, by omega⟩ dX5_value_135 ?_
          refine jr_goto 179 dX5_value_136 (by decide) ?_
          refine jr_iinc_5 (nI (k + 1)) dX5_value_179 (inc1 k) (by decide) rfl ?_
          refine jr_goto 6 dX5_value_182 (by decide) ?_
          first | rw [jb_t c_127] at hP2 | rw [jb_f c_127] at hP2 | rw [jb_t (Decidable.not_not.mp c_127)] at hP2
          exact ih (k + 1) _ _ _ hd2.symm (by omega) (hS.tr (Sm.sR rfl)) (by rw [wI_sR_s]; exact hP2)
      · obtain ⟨hP2, hd2⟩ := PR_bin hV (by omega) h1 (sign_ne h2) h3 hP
        have h8 : ¬ (s (40 + 200 * t + 4 + 2 * k)).toInt = 0 := by omega
        have h7 : ¬ (s (40 + 200 * t + 4 + 2 * k)).toInt = 1 := by omega
        rw [encF, if_neg h8, if_neg h7] at hst
        have hb1 : -s (40 + 200 * t + 4 + 2 * k + 1) < 0 ∧ -s (40 + 200 * t + 4 + 2 * k + 1) < -3 ∧ ¬ -s (40 + 200 * t + 4 + 2 * k + 1) = -33 := by
          rcases h2 with e | e | e | e | e | e | e | e | e <;> rw [e] <;> decide
        refine jr_iload dX5_value_6 rfl ?_
        refine jr_aload_n dX5_value_8 rfl ?_
        refine gfX5_16 (b + 1) dX5_value_9 (hS.K.mpr k5) (by rw [hS.F]; exact f2) ?_
        refine jr_alen (hS.K.mpr k1) (by decide) dX5_value_12 ?_
        refine jr_icmp_ge 185 dX5_value_13 (by decide) (fun c_13 => absurd c_13 hgo) (fun c_13 => ?_)
        refine jr_iload dX5_value_16 rfl ?_
        refine jr_aload_n dX5_value_18 rfl ?_
        refine gfX5_20 (b + 2) dX5_value_19 (hS.K.mpr k5) (by rw [hS.F]; exact f3) ?_
        refine jr_alen (hS.K.mpr k2) (by decide) dX5_value_22 ?_
        refine jr_icmp_ge 185 dX5_value_23 (by decide) (fun c_23 => absurd c_23 hgo2) (fun c_23 => ?_)
        refine jr_aload_n dX5_value_26 rfl ?_
        refine gfX5_16 (b + 1) dX5_value_27 (hS.K.mpr k5) (by rw [hS.F]; exact f2) ?_
        refine jr_iload dX5_value_30 rfl ?_
        refine jr_iald k (hS.K.mpr k1) rfl ⟨by omega, by omega⟩ dX5_value_32 ?_
        rw [hst]
        refine jr_istore_6 dX5_value_33 (by decide) rfl ?_
        refine jr_iload dX5_value_35 rfl ?_
        refine jr_if_lt 55 dX5_value_37 (by decide) (fun c_37 => ?_) (fun c_37 => absurd hb1.1 c_37)
        refine jr_iload dX5_value_55 rfl ?_
        refine jr_bipush (-3) dX5_value_57 (by decide) ?_
        refine jr_icmp_lt 97 dX5_value_59 (by decide) (fun c_59 => ?_) (fun c_59 => absurd hb1.2.1 c_59)
        refine jr_iload dX5_value_97 rfl ?_
        refine jr_bipush (-33) dX5_value_99 (by decide) ?_
        refine jr_icmp_ne 139 dX5_value_101 (by decide) (fun c_101 => ?_) (fun c_101 => absurd c_101 hb1.2.2)
        refine jr_iload dX5_value_139 rfl ?_
        refine jr_iconst (2) dX5_value_141 (by decide) ?_
        refine jr_icmp_lt 179 dX5_value_142 (by decide) (fun c_142 => absurd c_142 (by rw [jlit 2]; exact nI_nlt h3 (by omega))) (fun c_142 => ?_)
        refine jr_iinc_4 (nI (dpF s t k - 1)) dX5_value_145 (dec1 (by omega)) (by decide) rfl ?_
        refine jr_aload_n dX5_value_148 rfl ?_
        refine gfX5_20 (b + 2) dX5_value_149 (hS.K.mpr k5) (by rw [hS.F]; exact f3) ?_
        refine jr_iload dX5_value_152 rfl ?_
        refine jr_iconst (1) dX5_value_154 (by decide) ?_
        refine jr_isub dX5_value_155 ?_
        refine jr_iload dX5_value_156 rfl ?_
        refine jr_ineg dX5_value_158 ?_
        rw [Int32.neg_neg]
        refine jr_aload_n dX5_value_159 rfl ?_
        refine gfX5_20 (b + 2) dX5_value_160 (hS.K.mpr k5) (by rw [hS.F]; exact f3) ?_
        refine jr_iload dX5_value_163 rfl ?_
        refine jr_iconst (1) dX5_value_165 (by decide) ?_
        refine jr_isub dX5_value_166 ?_
        refine jr_iald (dpF s t k - 1 - 1) (hS.K.mpr k2) (sub1 (by omega)) ⟨by omega, by omega⟩ dX5_value_167 ?_
        refine jr_aload_n dX5_value_168 rfl ?_
        refine gfX5_20 (b + 2) dX5_value_169 (hS.K.mpr k5) (by rw [hS.F]; exact f3) ?_
        refine jr_iload dX5_value_172 rfl ?_
        refine jr_iald (dpF s t k - 1) (hS.K.mpr k2) rfl ⟨by omega, by omega⟩ dX5_value_174 ?_
        refine jc_Si (c_joined g _ _ _ _ h2) lkX5_23 rfl rfl (Nat.le_of_ble_eq_true rfl) (Nat.le_of_ble_eq_true rfl) dX5_value_175 (fun r_175 w_175 h_175 => ?_)
        obtain ⟨rfl, rfl⟩ := h_175
        refine jr_iast (dpF s t k - 1 - 1) (hS.K.mpr k2) (sub1 (by omega)) ⟨by omega, by omega⟩ dX5_value_178 ?_
        refine jr_iinc_5 (nI (k + 1)) dX5_value_179 (inc1 k) (by decide) rfl ?_
        refine jr_goto 6 dX5_value_182 (by decide) ?_
        exact ih (k + 1) _ _ _ hd2.symm (by omega) (hS.tr (Sm.sR rfl)) (by rw [wI_sR_s]; exact hP2)
  refine jr_iconst (0) dX5_value_0 (by decide) ?_
  refine jr_istore_4 dX5_value_1 (by decide) rfl ?_
  refine jr_iconst (0) dX5_value_3 (by decide) ?_
  refine jr_istore_5 dX5_value_4 (by decide) rfl ?_
  exact L _ 0 0 w none rfl rfl Sm.rf trivial
