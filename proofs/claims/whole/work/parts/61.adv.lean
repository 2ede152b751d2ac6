-- the class's reader: the next word or sign
theorem sx_i : ∀ c, c < 256 → (sx8 (nI c)).toInt = if c < 128 then (c : Int) else (c : Int) - 256 := by decide +kernel
def TpB (T : Nat → Int32) (n : Nat) : Prop := ∀ j, j < n → ∃ c, c < 256 ∧ T j = nI c
/-- what the reader reads: n bytes of the tape -/
def CsB (w : Wd) (T : Nat → Int32) (n : Nat) : Prop := wF w 43 0 = some 46 ∧ wI w 43 1 = nI n ∧ ∀ j, j < n → wI w 46 j = sx8 (T j)
def kmC (x : Int32) : Int32 := if x = 1 then 2 else if x = 2 then 1 else x
def CsT (w : Wd) (T : Nat → Int32) (n : Nat) (k : Tok) : Prop := CsB w T n ∧ wI w 43 2 = kmC k.2.2.1 ∧ wI w 43 3 = nI k.1 ∧ wI w 43 4 = nI k.2.1
theorem sx_rng {x : Int32} (h : ∃ c, c < 256 ∧ x = nI c) {lo hi : Int} (h0 : 0 ≤ lo) (h1 : hi < 128) : (lo ≤ (sx8 x).toInt ∧ (sx8 x).toInt ≤ hi) ↔ (lo ≤ x.toInt ∧ x.toInt ≤ hi) := by
  obtain ⟨c, hc, rfl⟩ := h
  rw [sx_i c hc, i_nI (by omega)]
  split <;> omega
theorem sx_eq {x : Int32} (h : ∃ c, c < 256 ∧ x = nI c) {b : Nat} (hb : b < 128) : sx8 x = nI b ↔ x = nI b := by
  obtain ⟨c, hc, rfl⟩ := h
  have e1 := sx_i c hc
  constructor
  · intro e
    rw [e, i_nI (by omega)] at e1
    have : c = b := by
      split at e1 <;> omega
    rw [this]
  · intro e
    have e2 : c = b := nI_inj (by omega) (by omega) e
    subst e2
    rw [eq_i, e1, if_pos hb, i_nI (by omega)]
theorem c_rLetter (g : Cx) (w : Wd) (x : Int32) : CI g yX6_isLetter cX6_isLetter 1 (some .boolean) 1 0 0 [.int x] w (fun r w' => r = jb (97 ≤ x.toInt ∧ x.toInt ≤ 122) ∧ w = w') := by
  refine CI.of (own := RX6) (nm := "isLetter") (lv := [some (.int x)]) (by decide) rfl rfl (Nat.le_of_ble_eq_true rfl) rfl (fun Q hQ => ?_)
  refine jr_iload_n dX6_isLetter_0 rfl ?_
  refine jr_bipush (97) dX6_isLetter_1 (by decide) ?_
  refine jr_icmp_lt 16 dX6_isLetter_3 (by decide) (fun c_3 => ?_) (fun c_3 => ?_)
  · simp only [lt_i, le_i, eq_i, Int32.reduceToInt] at c_3
    refine jr_iconst (0) dX6_isLetter_16 (by decide) ?_
    refine jr_zret rfl (by decide) dX6_isLetter_17 ?_
    first | exact hQ _ _ ⟨jb_f' (by omega), rfl⟩ | exact hQ _ _ ⟨jb_t' (by omega), rfl⟩
  · simp only [lt_i, le_i, eq_i, Int32.reduceToInt] at c_3
    refine jr_iload_n dX6_isLetter_6 rfl ?_
    refine jr_bipush (122) dX6_isLetter_7 (by decide) ?_
    refine jr_icmp_gt 16 dX6_isLetter_9 (by decide) (fun c_9 => ?_) (fun c_9 => ?_)
    · simp only [lt_i, le_i, eq_i, Int32.reduceToInt] at c_9
      refine jr_iconst (0) dX6_isLetter_16 (by decide) ?_
      refine jr_zret rfl (by decide) dX6_isLetter_17 ?_
      first | exact hQ _ _ ⟨jb_f' (by omega), rfl⟩ | exact hQ _ _ ⟨jb_t' (by omega), rfl⟩
    · simp only [lt_i, le_i, eq_i, Int32.reduceToInt] at c_9
      refine jr_iconst (1) dX6_isLetter_12 (by decide) ?_
      refine jr_goto 17 dX6_isLetter_13 (by decide) ?_
      refine jr_zret rfl (by decide) dX6_isLetter_17 ?_
      first | exact hQ _ _ ⟨jb_f' (by omega), rfl⟩ | exact hQ _ _ ⟨jb_t' (by omega), rfl⟩
theorem c_rDigit (g : Cx) (w : Wd) (x : Int32) : CI g yX6_isDigit cX6_isDigit 1 (some .boolean) 1 0 0 [.int x] w (fun r w' => r = jb (48 ≤ x.toInt ∧ x.toInt ≤ 57) ∧ w = w') := by
  refine CI.of (own := RX6) (nm := "isDigit") (lv := [some (.int x)]) (by decide) rfl rfl (Nat.le_of_ble_eq_true rfl) rfl (fun Q hQ => ?_)
  refine jr_iload_n dX6_isDigit_0 rfl ?_
  refine jr_bipush (48) dX6_isDigit_1 (by decide) ?_
  refine jr_icmp_lt 16 dX6_isDigit_3 (by decide) (fun c_3 => ?_) (fun c_3 => ?_)
  · simp only [lt_i, le_i, eq_i, Int32.reduceToInt] at c_3
    refine jr_iconst (0) dX6_isDigit_16 (by decide) ?_
    refine jr_zret rfl (by decide) dX6_isDigit_17 ?_
    first | exact hQ _ _ ⟨jb_f' (by omega), rfl⟩ | exact hQ _ _ ⟨jb_t' (by omega), rfl⟩
  · simp only [lt_i, le_i, eq_i, Int32.reduceToInt] at c_3
    refine jr_iload_n dX6_isDigit_6 rfl ?_
    refine jr_bipush (57) dX6_isDigit_7 (by decide) ?_
    refine jr_icmp_gt 16 dX6_isDigit_9 (by decide) (fun c_9 => ?_) (fun c_9 => ?_)
    · simp only [lt_i, le_i, eq_i, Int32.reduceToInt] at c_9
      refine jr_iconst (0) dX6_isDigit_16 (by decide) ?_
      refine jr_zret rfl (by decide) dX6_isDigit_17 ?_
      first | exact hQ _ _ ⟨jb_f' (by omega), rfl⟩ | exact hQ _ _ ⟨jb_t' (by omega), rfl⟩
    · simp only [lt_i, le_i, eq_i, Int32.reduceToInt] at c_9
      refine jr_iconst (1) dX6_isDigit_12 (by decide) ?_
      refine jr_goto 17 dX6_isDigit_13 (by decide) ?_
      refine jr_zret rfl (by decide) dX6_isDigit_17 ?_
      first | exact hQ _ _ ⟨jb_f' (by omega), rfl⟩ | exact hQ _ _ ⟨jb_t' (by omega), rfl⟩
theorem c_advance (g : Cx) (w : Wd) (hw : Wf w) (T : Nat → Int32) (n : Nat) (hn : n ≤ 96) (hTB : TpB T n) (hB : CsB w T n) (k : Tok) (hk : k.2.1 ≤ n) (h4 : wI w 43 4 = nI k.2.1) (hbw : (wI w 43 2 = 1 ∨ wI w 43 2 = 2) ↔ (0 < k.2.1 ∧ (k.2.2.1 = 1 ∨ k.2.2.1 = 2))) : CV g yX6_advance cX6_advance 3 2 0 0 [.ref (gb g + 43)] w (fun w' => ∃ f, w' = sR w 43 f ∧ CsT (sR w 43 f) T n (tokF T n k) ∧ ∀ j, j ≠ 2 → j ≠ 3 → j ≠ 4 → f j = wI w 43 j) := by
  obtain ⟨hB0, hB1, hB2⟩ := hB
  obtain ⟨a0, b0, tk, nu, le⟩ := k
  simp only at hk h4 hbw
  obtain ⟨bw, ebw⟩ : ∃ P : Prop, P = (0 < b0 ∧ (tk = 1 ∨ tk = 2)) := ⟨_, rfl⟩
  rw [← ebw] at hbw
  obtain ⟨bg, ebg⟩ : ∃ bg, bg = runE (spB T n) (n - b0) b0 := ⟨_, rfl⟩
  have hbg := runE_le (spB T n) (n - b0) b0
  rw [← ebg] at hbg
  obtain ⟨eL, heL⟩ : ∃ eL, eL = runE (ltB T n) (n - bg) bg := ⟨_, rfl⟩
  obtain ⟨eD, heD⟩ : ∃ eD, eD = runE (dgB T n) (n - bg) bg := ⟨_, rfl⟩
  have hLl := runE_le (ltB T n) (n - bg) bg
  have hDl := runE_le (dgB T n) (n - bg) bg
  rw [← heL] at hLl
  rw [← heD] at hDl
  have eT : tokF T n (a0, b0, tk, nu, le) = if bg = n then (n, n, 0, nu, le) else if tpL T n bg then (bg, eL, (if (0 < b0 ∧ (tk = 1 ∨ tk = 2)) ∧ b0 = bg then 4 else 1), nu, (if eL - bg = 1 then T bg else 0)) else if tpD T n bg then (bg, eD, (if ((0 < b0 ∧ (tk = 1 ∨ tk = 2)) ∧ b0 = bg) ∨ 4 < eD - bg then 4 else 2), numF T bg (eD - bg), le) else (bg, bg + 1, 3, nu, T bg) := by
    rw [heL, heD, ebg, tokF]
  have hpl : ∀ j, j < n → ((97 ≤ (sx8 (T j)).toInt ∧ (sx8 (T j)).toInt ≤ 122) ↔ tpL T n j) := fun j hj => by
    rw [sx_rng (hTB j hj) (by decide) (by decide)]
    exact ⟨fun h => ⟨hj, h⟩, fun h => h.2⟩
  have hpd : ∀ j, j < n → ((48 ≤ (sx8 (T j)).toInt ∧ (sx8 (T j)).toInt ≤ 57) ↔ tpD T n j) := fun j hj => by
    rw [sx_rng (hTB j hj) (by decide) (by decide)]
    exact ⟨fun h => ⟨hj, h⟩, fun h => h.2⟩
  have fin : ∀ (f : Nat → Int32) (k' : Tok), tokF T n (a0, b0, tk, nu, le) = k' → f 2 = kmC k'.2.2.1 → f 3 = nI k'.1 → f 4 = nI k'.2.1 → (∀ j, j ≠ 2 → j ≠ 3 → j ≠ 4 → f j = wI w 43 j) → ∀ Q : Option Value → Wd → Prop, (∀ w', (∃ f, w' = sR w 43 f ∧ CsT (sR w 43 f) T n (tokF T n (a0, b0, tk, nu, le)) ∧ ∀ j, j ≠ 2 → j ≠ 3 → j ≠ 4 → f j = wI w 43 j) → Q none w') → Q none (sR w 43 f) := by
    intro f k' e1 e2 e3 e4 e5 Q hQ
    refine hQ _ ⟨f, rfl, ⟨⟨hB0, ?_, ?_⟩, ?_, ?_, ?_⟩, e5⟩
    · rw [wI_sR_s, e5 1 (by decide) (by decide) (by decide)]; exact hB1
    · intro j hj
      rw [wI_sR_n _ (by decide)]; exact hB2 j hj
    · rw [wI_sR_s, e1]; exact e2
    · rw [wI_sR_s, e1]; exact e3
    · rw [wI_sR_s, e1]; exact e4
  refine CV.of (own := RX6) (nm := "advance") (lv := [some (.ref (gb g + 43)), none, none]) (by decide) rfl rfl (Nat.le_of_ble_eq_true rfl) rfl (fun Q hQ => ?_)
  have D : Decidable bw := by rw [ebw]; exact inferInstance
  -- behind letters
  have K170 : ∀ (f : Nat → Int32) (x t : Int32), ¬ bg = n → tpL T n bg → (t = 0 ∨ t = 1) → (t = 1 ↔ (bw ∧ b0 = bg)) → f 3 = nI bg → f 4 = nI eL → (∀ j, j ≠ 2 → j ≠ 3 → j ≠ 4 → f j = wI w 43 j) → RR g RX6 cX6_advance 3 none "advance" 2 0 0 0 0 170 [some (.ref (gb g + 43)), some (.int x), some (.int t)] [] (sR w 43 f) Q := by
    intro f x t hne hl ht0 ht f3 f4 fo
    rw [if_neg hne, if_pos hl] at eT
    by_cases hc : bw ∧ b0 = bg
    · have et : t = 1 := ht.mpr hc
      subst et
      rw [if_pos (show (0 < b0 ∧ (tk = 1 ∨ tk = 2)) ∧ b0 = bg by rw [← ebw]; exact hc)] at eT
      refine jr_aload_n dX6_advance_170 rfl ?_
      refine jr_iload_n dX6_advance_171 rfl ?_
      refine jr_if_eq 179 dX6_advance_172 (by decide) (fun c_172 => absurd c_172 (by decide)) (fun c_172 => ?_)
      refine jr_iconst (4) dX6_advance_175 (by decide) ?_
      refine jr_goto 180 dX6_advance_176 (by decide) ?_
      refine pfX6_19 dX6_advance_180 (hw.k rfl) ?_
      rw [sR_sR, wI_sR_s]
      refine jr_goto 284 dX6_advance_183 (by decide) ?_
      refine jr_vret rfl dX6_advance_284 ?_
      exact fin _ _ eT pk_us (by rw [pk_un (by decide)]; exact f3) (by rw [pk_un (by decide)]; exact f4) (fun j h2 h3 h4 => by rw [pk_un h2]; exact fo j h2 h3 h4) Q hQ
    · have et : t = 0 := ht0.resolve_right (fun h => hc (ht.mp h))
      subst et
      rw [if_neg (show ¬ ((0 < b0 ∧ (tk = 1 ∨ tk = 2)) ∧ b0 = bg) by rw [← ebw]; exact hc)] at eT
      refine jr_aload_n dX6_advance_170 rfl ?_
      refine jr_iload_n dX6_advance_171 rfl ?_
      refine jr_if_eq 179 dX6_advance_172 (by decide) (fun c_172 => ?_) (fun c_172 => absurd (by decide) c_172)
      refine jr_iconst (2) dX6_advance_179 (by decide) ?_
      refine pfX6_19 dX6_advance_180 (hw.k rfl) ?_
      rw [sR_sR, wI_sR_s]
      refine jr_goto 284 dX6_advance_183 (by decide) ?_
      refine jr_vret rfl dX6_advance_284 ?_
      exact fin _ _ eT pk_us (by rw [pk_un (by decide)]; exact f3) (by rw [pk_un (by decide)]; exact f4) (fun j h2 h3 h4 => by rw [pk_un h2]; exact fo j h2 h3 h4) Q hQ
  have L131 : ∀ (x t : Int32), ¬ bg = n → tpL T n bg → (t = 0 ∨ t = 1) → (t = 1 ↔ (bw ∧ b0 = bg)) → ∀ (m b : Nat) (f : Nat → Int32), m + b = n → eL = runE (ltB T n) m b → f 3 = nI bg → f 4 = nI b → (∀ j, j ≠ 2 → j ≠ 3 → j ≠ 4 → f j = wI w 43 j) → RR g RX6 cX6_advance 3 none "advance" 2 0 0 0 0 131 [some (.ref (gb g + 43)), some (.int x), some (.int t)] [] (sR w 43 f) Q := by
    intro x t hne hl ht0 ht m
    induction m with
    | zero =>
      intro b f hm he f3 f4 fo
      have e1 : b = eL := he.symm
      subst e1
      refine jr_aload_n dX6_advance_131 rfl ?_
      refine gfX6_25 dX6_advance_132 (hw.k rfl) ?_
      rw [wI_sR_s, f4]
      refine jr_aload_n dX6_advance_135 rfl ?_
      refine gfX6_15 dX6_advance_136 (hw.k rfl) ?_
      rw [wI_sR_s, fo 1 (by decide) (by decide) (by decide), hB1]
      refine jr_icmp_ge 170 dX6_advance_139 (by decide) (fun c_139 => ?_) (fun c_139 => absurd (nI_le (by omega) (by omega)) c_139)
      exact K170 f x t hne hl ht0 ht f3 f4 fo
    | succ m ih =>
      intro b f hm he f3 f4 fo
      have hbn : b < n := by omega
      by_cases hc : tpL T n b
      · have h9 := ih (b + 1) (upd f 4 (nI (b + 1))) (by omega) (he.trans (runE_t (decide_eq_true hc))) (by rw [pk_un (by decide)]; exact f3) pk_us (fun j h2 h3 h4 => by rw [pk_un h4]; exact fo j h2 h3 h4)
        refine jr_aload_n dX6_advance_131 rfl ?_
        refine gfX6_25 dX6_advance_132 (hw.k rfl) ?_
        rw [wI_sR_s, f4]
        refine jr_aload_n dX6_advance_135 rfl ?_
        refine gfX6_15 dX6_advance_136 (hw.k rfl) ?_
        rw [wI_sR_s, fo 1 (by decide) (by decide) (by decide), hB1]
        refine jr_icmp_ge 170 dX6_advance_139 (by decide) (fun c_139 => absurd c_139 (nI_ge hbn (by omega))) (fun c_139 => ?_)
        refine jr_aload_n dX6_advance_142 rfl ?_
        refine gfX6_9 46 dX6_advance_143 (hw.k rfl) (by exact hB0) ?_
        refine jr_aload_n dX6_advance_146 rfl ?_
        refine gfX6_25 dX6_advance_147 (hw.k rfl) ?_
        rw [wI_sR_s, f4]
        refine jr_bald b (hw.k rfl) rfl ⟨by omega, by decide⟩ dX6_advance_150 ?_
        rw [wI_sR_n _ (by decide), hB2 b hbn]
        refine jc_Si (c_rLetter g _ _) lkX6_69 rfl rfl (Nat.le_of_ble_eq_true rfl) (Nat.le_of_ble_eq_true rfl) dX6_advance_151 (fun r_151 w_151 h_151 => ?_)
        obtain ⟨rfl, rfl⟩ := h_151
        refine jr_if_eq 170 dX6_advance_154 (by decide) (fun c_154 => absurd c_154 (jb_1.mpr ((hpl b hbn).mpr hc))) (fun c_154 => ?_)
        refine jr_aload_n dX6_advance_157 rfl ?_
        refine jr_dup dX6_advance_158 rfl ?_
        refine gfX6_25 dX6_advance_159 (hw.k rfl) ?_
        rw [wI_sR_s, f4]
        refine jr_iconst (1) dX6_advance_162 (by decide) ?_
        refine jr_iadd dX6_advance_163 ?_
        rw [jlit 1, nI_add]
        refine pfX6_25 dX6_advance_164 (hw.k rfl) ?_
        rw [sR_sR, wI_sR_s]
        refine jr_goto 131 dX6_advance_167 (by decide) ?_
        exact h9
      · have e1 : eL = b := he.trans (runE_f (fun e => hc (of_decide_eq_true e)))
        rw [← e1] at f4
        have h9 := K170 f x t hne hl ht0 ht f3 f4 fo
        rw [e1] at f4
        refine jr_aload_n dX6_advance_131 rfl ?_
        refine gfX6_25 dX6_advance_132 (hw.k rfl) ?_
        rw [wI_sR_s, f4]
        refine jr_aload_n dX6_advance_135 rfl ?_
        refine gfX6_15 dX6_advance_136 (hw.k rfl) ?_
        rw [wI_sR_s, fo 1 (by decide) (by decide) (by decide), hB1]
        refine jr_icmp_ge 170 dX6_advance_139 (by decide) (fun c_139 => absurd c_139 (nI_ge hbn (by omega))) (fun c_139 => ?_)
        refine jr_aload_n dX6_advance_142 rfl ?_
        refine gfX6_9 46 dX6_advance_143 (hw.k rfl) (by exact hB0) ?_
        refine jr_aload_n dX6_advance_146 rfl ?_
        refine gfX6_25 dX6_advance_147 (hw.k rfl) ?_
        rw [wI_sR_s, f4]
        refine jr_bald b (hw.k rfl) rfl ⟨by omega, by decide⟩ dX6_advance_150 ?_
        rw [wI_sR_n _ (by decide), hB2 b hbn]
        refine jc_Si (c_rLetter g _ _) lkX6_69 rfl rfl (Nat.le_of_ble_eq_true rfl) (Nat.le_of_ble_eq_true rfl) dX6_advance_151 (fun r_151 w_151 h_151 => ?_)
        obtain ⟨rfl, rfl⟩ := h_151
        refine jr_if_eq 170 dX6_advance_154 (by decide) (fun c_154 => ?_) (fun c_154 => absurd (jb_f (fun h => hc ((hpl b hbn).mp h))) c_154)
        exact h9
  have K240 : ∀ (f : Nat → Int32) (x t : Int32), ¬ bg = n → ¬ tpL T n bg → tpD T n bg → (t = 0 ∨ t = 1) → (t = 1 ↔ (bw ∧ b0 = bg)) → f 3 = nI bg → f 4 = nI eD → (∀ j, j ≠ 2 → j ≠ 3 → j ≠ 4 → f j = wI w 43 j) → RR g RX6 cX6_advance 3 none "advance" 2 0 0 0 0 240 [some (.ref (gb g + 43)), some (.int x), some (.int t)] [] (sR w 43 f) Q := by
    intro f x t hne hl hd ht0 ht f3 f4 fo
    rw [if_neg hne, if_neg hl, if_pos hd] at eT
    by_cases hc : bw ∧ b0 = bg
    · have et : t = 1 := ht.mpr hc
      subst et
      rw [if_pos (show ((0 < b0 ∧ (tk = 1 ∨ tk = 2)) ∧ b0 = bg) ∨ 4 < eD - bg from Or.inl (by rw [← ebw]; exact hc))] at eT
      refine jr_aload_n dX6_advance_240 rfl ?_
      refine jr_iload_n dX6_advance_241 rfl ?_
      refine jr_if_ne 258 dX6_advance_242 (by decide) (fun c_242 => ?_) (fun c_242 => absurd c_242 (by decide))
      refine jr_iconst (4) dX6_advance_258 (by decide) ?_
      refine jr_goto 263 dX6_advance_259 (by decide) ?_
      refine pfX6_19 dX6_advance_263 (hw.k rfl) ?_
      rw [sR_sR, wI_sR_s]
      refine jr_goto 284 dX6_advance_266 (by decide) ?_
      refine jr_vret rfl dX6_advance_284 ?_
      exact fin _ _ eT pk_us (by rw [pk_un (by decide)]; exact f3) (by rw [pk_un (by decide)]; exact f4) (fun j h2 h3 h4 => by rw [pk_un h2]; exact fo j h2 h3 h4) Q hQ
    · have et : t = 0 := ht0.resolve_right (fun h => hc (ht.mp h))
      subst et
      by_cases h5 : 4 < eD - bg
      · rw [if_pos (show ((0 < b0 ∧ (tk = 1 ∨ tk = 2)) ∧ b0 = bg) ∨ 4 < eD - bg from Or.inr h5)] at eT
        refine jr_aload_n dX6_advance_240 rfl ?_
        refine jr_iload_n dX6_advance_241 rfl ?_
        refine jr_if_ne 258 dX6_advance_242 (by decide) (fun c_242 => absurd (by decide) c_242) (fun c_242 => ?_)
        refine jr_aload_n dX6_advance_245 rfl ?_
        refine gfX6_25 dX6_advance_246 (hw.k rfl) ?_
        rw [wI_sR_s, f4]
        refine jr_aload_n dX6_advance_249 rfl ?_
        refine gfX6_22 dX6_advance_250 (hw.k rfl) ?_
        rw [wI_sR_s, f3]
        refine jr_isub dX6_advance_253 ?_
        rw [pk_sub (by omega)]
        refine jr_iconst (4) dX6_advance_254 (by decide) ?_
        refine jr_icmp_le 262 dX6_advance_255 (by decide) (fun c_255 => absurd c_255 (by rw [jlit 4]; exact nI_ge h5 (by omega))) (fun c_255 => ?_)
        refine jr_iconst (4) dX6_advance_258 (by decide) ?_
        refine jr_goto 263 dX6_advance_259 (by decide) ?_
        refine pfX6_19 dX6_advance_263 (hw.k rfl) ?_
        rw [sR_sR, wI_sR_s]
        refine jr_goto 284 dX6_advance_266 (by decide) ?_
        refine jr_vret rfl dX6_advance_284 ?_
        exact fin _ _ eT pk_us (by rw [pk_un (by decide)]; exact f3) (by rw [pk_un (by decide)]; exact f4) (fun j h2 h3 h4 => by rw [pk_un h2]; exact fo j h2 h3 h4) Q hQ
      · rw [if_neg (show ¬ (((0 < b0 ∧ (tk = 1 ∨ tk = 2)) ∧ b0 = bg) ∨ 4 < eD - bg) from fun h => h.elim (fun h => hc (by rw [ebw]; exact h)) h5)] at eT
        refine jr_aload_n dX6_advance_240 rfl ?_
        refine jr_iload_n dX6_advance_241 rfl ?_
        refine jr_if_ne 258 dX6_advance_242 (by decide) (fun c_242 => absurd (by decide) c_242) (fun c_242 => ?_)
        refine jr_aload_n dX6_advance_245 rfl ?_
        refine gfX6_25 dX6_advance_246 (hw.k rfl) ?_
        rw [wI_sR_s, f4]
        refine jr_aload_n dX6_advance_249 rfl ?_
        refine gfX6_22 dX6_advance_250 (hw.k rfl) ?_
        rw [wI_sR_s, f3]
        refine jr_isub dX6_advance_253 ?_
        rw [pk_sub (by omega)]
        refine jr_iconst (4) dX6_advance_254 (by decide) ?_
        refine jr_icmp_le 262 dX6_advance_255 (by decide) (fun c_255 => ?_) (fun c_255 => absurd (by rw [jlit 4]; exact nI_le (by omega) (by decide)) c_255)
        refine jr_iconst (1) dX6_advance_262 (by decide) ?_
        refine pfX6_19 dX6_advance_263 (hw.k rfl) ?_
        rw [sR_sR, wI_sR_s]
        refine jr_goto 284 dX6_advance_266 (by decide) ?_
        refine jr_vret rfl dX6_advance_284 ?_
        exact fin _ _ eT pk_us (by rw [pk_un (by decide)]; exact f3) (by rw [pk_un (by decide)]; exact f4) (fun j h2 h3 h4 => by rw [pk_un h2]; exact fo j h2 h3 h4) Q hQ
  have L201 : ∀ (x t : Int32), ¬ bg = n → ¬ tpL T n bg → tpD T n bg → (t = 0 ∨ t = 1) → (t = 1 ↔ (bw ∧ b0 = bg)) → ∀ (m b : Nat) (f : Nat → Int32), m + b = n → eD = runE (dgB T n) m b → f 3 = nI bg → f 4 = nI b → (∀ j, j ≠ 2 → j ≠ 3 → j ≠ 4 → f j = wI w 43 j) → RR g RX6 cX6_advance 3 none "advance" 2 0 0 0 0 201 [some (.ref (gb g + 43)), some (.int x), some (.int t)] [] (sR w 43 f) Q := by
    intro x t hne hl hd ht0 ht m
    induction m with
    | zero =>
      intro b f hm he f3 f4 fo
      have e1 : b = eD := he.symm
      subst e1
      refine jr_aload_n dX6_advance_201 rfl ?_
      refine gfX6_25 dX6_advance_202 (hw.k rfl) ?_
      rw [wI_sR_s, f4]
      refine jr_aload_n dX6_advance_205 rfl ?_
      refine gfX6_15 dX6_advance_206 (hw.k rfl) ?_
      rw [wI_sR_s, fo 1 (by decide) (by decide) (by decide), hB1]
      refine jr_icmp_ge 240 dX6_advance_209 (by decide) (fun c_209 => ?_) (fun c_209 => absurd (nI_le (by omega) (by omega)) c_209)
      exact K240 f x t hne hl hd ht0 ht f3 f4 fo
    | succ m ih =>
      intro b f hm he f3 f4 fo
      have hbn : b < n := by omega
      by_cases hc : tpD T n b
      · have h9 := ih (b + 1) (upd f 4 (nI (b + 1))) (by omega) (he.trans (runE_t (decide_eq_true hc))) (by rw [pk_un (by decide)]; exact f3) pk_us (fun j h2 h3 h4 => by rw [pk_un h4]; exact fo j h2 h3 h4)
        refine jr_aload_n dX6_advance_201 rfl ?_
        refine gfX6_25 dX6_advance_202 (hw.k rfl) ?_
        rw [wI_sR_s, f4]
        refine jr_aload_n dX6_advance_205 rfl ?_
        refine gfX6_15 dX6_advance_206 (hw.k rfl) ?_
        rw [wI_sR_s, fo 1 (by decide) (by decide) (by decide), hB1]
        refine jr_icmp_ge 240 dX6_advance_209 (by decide) (fun c_209 => absurd c_209 (nI_ge hbn (by omega))) (fun c_209 => ?_)
        refine jr_aload_n dX6_advance_212 rfl ?_
        refine gfX6_9 46 dX6_advance_213 (hw.k rfl) (by exact hB0) ?_
        refine jr_aload_n dX6_advance_216 rfl ?_
        refine gfX6_25 dX6_advance_217 (hw.k rfl) ?_
        rw [wI_sR_s, f4]
        refine jr_bald b (hw.k rfl) rfl ⟨by omega, by decide⟩ dX6_advance_220 ?_
        rw [wI_sR_n _ (by decide), hB2 b hbn]
        refine jc_Si (c_rDigit g _ _) lkX6_73 rfl rfl (Nat.le_of_ble_eq_true rfl) (Nat.le_of_ble_eq_true rfl) dX6_advance_221 (fun r_221 w_221 h_221 => ?_)
        obtain ⟨rfl, rfl⟩ := h_221
        refine jr_if_eq 240 dX6_advance_224 (by decide) (fun c_224 => absurd c_224 (jb_1.mpr ((hpd b hbn).mpr hc))) (fun c_224 => ?_)
        refine jr_aload_n dX6_advance_227 rfl ?_
        refine jr_dup dX6_advance_228 rfl ?_
        refine gfX6_25 dX6_advance_229 (hw.k rfl) ?_
        rw [wI_sR_s, f4]
        refine jr_iconst (1) dX6_advance_232 (by decide) ?_
        refine jr_iadd dX6_advance_233 ?_
        rw [jlit 1, nI_add]
        refine pfX6_25 dX6_advance_234 (hw.k rfl) ?_
        rw [sR_sR, wI_sR_s]
        refine jr_goto 201 dX6_advance_237 (by decide) ?_
        exact h9
      · have e1 : eD = b := he.trans (runE_f (fun e => hc (of_decide_eq_true e)))
        rw [← e1] at f4
        have h9 := K240 f x t hne hl hd ht0 ht f3 f4 fo
        rw [e1] at f4
        refine jr_aload_n dX6_advance_201 rfl ?_
        refine gfX6_25 dX6_advance_202 (hw.k rfl) ?_
        rw [wI_sR_s, f4]
        refine jr_aload_n dX6_advance_205 rfl ?_
        refine gfX6_15 dX6_advance_206 (hw.k rfl) ?_
        rw [wI_sR_s, fo 1 (by decide) (by decide) (by decide), hB1]
        refine jr_icmp_ge 240 dX6_advance_209 (by decide) (fun c_209 => absurd c_209 (nI_ge hbn (by omega))) (fun c_209 => ?_)
        refine jr_aload_n dX6_advance_212 rfl ?_
        refine gfX6_9 46 dX6_advance_213 (hw.k rfl) (by exact hB0) ?_
        refine jr_aload_n dX6_advance_216 rfl ?_
        refine gfX6_25 dX6_advance_217 (hw.k rfl) ?_
        rw [wI_sR_s, f4]
        refine jr_bald b (hw.k rfl) rfl ⟨by omega, by decide⟩ dX6_advance_220 ?_
        rw [wI_sR_n _ (by decide), hB2 b hbn]
        refine jc_Si (c_rDigit g _ _) lkX6_73 rfl rfl (Nat.le_of_ble_eq_true rfl) (Nat.le_of_ble_eq_true rfl) dX6_advance_221 (fun r_221 w_221 h_221 => ?_)
        obtain ⟨rfl, rfl⟩ := h_221
        refine jr_if_eq 240 dX6_advance_224 (by decide) (fun c_224 => ?_) (fun c_224 => absurd (jb_f (fun h => hc ((hpd b hbn).mp h))) c_224)
        exact h9
  have K88 : ∀ (f : Nat → Int32) (x t : Int32), (t = 0 ∨ t = 1) → (t = 1 ↔ (bw ∧ b0 = bg)) → f 3 = nI bg → (∀ j, j ≠ 2 → j ≠ 3 → j ≠ 4 → f j = wI w 43 j) → RR g RX6 cX6_advance 3 none "advance" 2 0 0 0 0 88 [some (.ref (gb g + 43)), some (.int x), none] [.int t] (sR w 43 f) Q := by
    intro f x t ht0 ht f3 fo
    obtain ⟨F1, eF1⟩ : ∃ F1, F1 = upd f 4 (nI bg) := ⟨_, rfl⟩
    have g3 : F1 3 = nI bg := by rw [eF1, pk_un (by decide)]; exact f3
    have g4 : F1 4 = nI bg := by rw [eF1]; exact pk_us
    have go : ∀ j, j ≠ 2 → j ≠ 3 → j ≠ 4 → F1 j = wI w 43 j := fun j h2 h3 h4 => by rw [eF1, pk_un h4]; exact fo j h2 h3 h4
    by_cases hne : bg = n
    · rw [if_pos hne] at eT
      refine jr_istore_2 dX6_advance_88 (by decide) rfl ?_
      refine jr_aload_n dX6_advance_89 rfl ?_
      refine jr_aload_n dX6_advance_90 rfl ?_
      refine gfX6_22 dX6_advance_91 (hw.k rfl) ?_
      rw [wI_sR_s, f3]
      refine pfX6_25 dX6_advance_94 (hw.k rfl) ?_
      rw [sR_sR, wI_sR_s, ← eF1]
      refine jr_aload_n dX6_advance_97 rfl ?_
      refine gfX6_22 dX6_advance_98 (hw.k rfl) ?_
      rw [wI_sR_s, g3]
      refine jr_aload_n dX6_advance_101 rfl ?_
      refine gfX6_15 dX6_advance_102 (hw.k rfl) ?_
      rw [wI_sR_s, go 1 (by decide) (by decide) (by decide), hB1]
      refine jr_icmp_lt 116 dX6_advance_105 (by decide) (fun c_105 => absurd c_105 (by rw [hne]; exact nI_nlt (Nat.le_refl _) (by omega))) (fun c_105 => ?_)
      refine jr_aload_n dX6_advance_108 rfl ?_
      refine jr_iconst (0) dX6_advance_109 (by decide) ?_
      refine pfX6_19 dX6_advance_110 (hw.k rfl) ?_
      rw [sR_sR, wI_sR_s]
      refine jr_goto 284 dX6_advance_113 (by decide) ?_
      refine jr_vret rfl dX6_advance_284 ?_
      exact fin _ _ eT pk_us (by rw [pk_un (by decide), g3, hne]) (by rw [pk_un (by decide), g4, hne]) (fun j h2 h3 h4 => by rw [pk_un h2]; exact go j h2 h3 h4) Q hQ
    · have hbn : bg < n := by omega
      by_cases hl : tpL T n bg
      · have h9 := L131 x t hne hl ht0 ht (n - bg) bg F1 (by omega) heL g3 g4 go
        refine jr_istore_2 dX6_advance_88 (by decide) rfl ?_
        refine jr_aload_n dX6_advance_89 rfl ?_
        refine jr_aload_n dX6_advance_90 rfl ?_
        refine gfX6_22 dX6_advance_91 (hw.k rfl) ?_
        rw [wI_sR_s, f3]
        refine pfX6_25 dX6_advance_94 (hw.k rfl) ?_
        rw [sR_sR, wI_sR_s, ← eF1]
        refine jr_aload_n dX6_advance_97 rfl ?_
        refine gfX6_22 dX6_advance_98 (hw.k rfl) ?_
        rw [wI_sR_s, g3]
        refine jr_aload_n dX6_advance_101 rfl ?_
        refine gfX6_15 dX6_advance_102 (hw.k rfl) ?_
        rw [wI_sR_s, go 1 (by decide) (by decide) (by decide), hB1]
        refine jr_icmp_lt 116 dX6_advance_105 (by decide) (fun c_105 => ?_) (fun c_105 => absurd (nI_lt hbn (by omega)) c_105)
        refine jr_aload_n dX6_advance_116 rfl ?_
        refine gfX6_9 46 dX6_advance_117 (hw.k rfl) (by exact hB0) ?_
        refine jr_aload_n dX6_advance_120 rfl ?_
        refine gfX6_22 dX6_advance_121 (hw.k rfl) ?_
        rw [wI_sR_s, g3]
        refine jr_bald bg (hw.k rfl) rfl ⟨by omega, by decide⟩ dX6_advance_124 ?_
        rw [wI_sR_n _ (by decide), hB2 bg hbn]
        refine jc_Si (c_rLetter g _ _) lkX6_69 rfl rfl (Nat.le_of_ble_eq_true rfl) (Nat.le_of_ble_eq_true rfl) dX6_advance_125 (fun r_125 w_125 h_125 => ?_)
        obtain ⟨rfl, rfl⟩ := h_125
        refine jr_if_eq 186 dX6_advance_128 (by decide) (fun c_128 => absurd c_128 (jb_1.mpr ((hpl bg hbn).mpr hl))) (fun c_128 => ?_)
        exact h9
      · by_cases hd : tpD T n bg
        · have h9 := L201 x t hne hl hd ht0 ht (n - bg) bg F1 (by omega) heD g3 g4 go
          refine jr_istore_2 dX6_advance_88 (by decide) rfl ?_
          refine jr_aload_n dX6_advance_89 rfl ?_
          refine jr_aload_n dX6_advance_90 rfl ?_
          refine gfX6_22 dX6_advance_91 (hw.k rfl) ?_
          rw [wI_sR_s, f3]
          refine pfX6_25 dX6_advance_94 (hw.k rfl) ?_
          rw [sR_sR, wI_sR_s, ← eF1]
          refine jr_aload_n dX6_advance_97 rfl ?_
          refine gfX6_22 dX6_advance_98 (hw.k rfl) ?_
          rw [wI_sR_s, g3]
          refine jr_aload_n dX6_advance_101 rfl ?_
          refine gfX6_15 dX6_advance_102 (hw.k rfl) ?_
          rw [wI_sR_s, go 1 (by decide) (by decide) (by decide), hB1]
          refine jr_icmp_lt 116 dX6_advance_105 (by decide) (fun c_105 => ?_) (fun c_105 => absurd (nI_lt hbn (by omega)) c_105)
          refine jr_aload_n dX6_advance_116 rfl ?_
          refine gfX6_9 46 dX6_advance_117 (hw.k rfl) (by exact hB0) ?_
          refine jr_aload_n dX6_advance_120 rfl ?_
          refine gfX6_22 dX6_advance_121 (hw.k rfl) ?_
          rw [wI_sR_s, g3]
          refine jr_bald bg (hw.k rfl) rfl ⟨by omega, by decide⟩ dX6_advance_124 ?_
          rw [wI_sR_n _ (by decide), hB2 bg hbn]
          refine jc_Si (c_rLetter g _ _) lkX6_69 rfl rfl (Nat.le_of_ble_eq_true rfl) (Nat.le_of_ble_eq_true rfl) dX6_advance_125 (fun r_125 w_125 h_125 => ?_)
          obtain ⟨rfl, rfl⟩ := h_125
          refine jr_if_eq 186 dX6_advance_128 (by decide) (fun c_128 => ?_) (fun c_128 => absurd (jb_f (fun h => hl ((hpl bg hbn).mp h))) c_128)
          refine jr_aload_n dX6_advance_186 rfl ?_
          refine gfX6_9 46 dX6_advance_187 (hw.k rfl) (by exact hB0) ?_
          refine jr_aload_n dX6_advance_190 rfl ?_
          refine gfX6_22 dX6_advance_191 (hw.k rfl) ?_
          rw [wI_sR_s, g3]
          refine jr_bald bg (hw.k rfl) rfl ⟨by omega, by decide⟩ dX6_advance_194 ?_
          rw [wI_sR_n _ (by decide), hB2 bg hbn]
          refine jc_Si (c_rDigit g _ _) lkX6_73 rfl rfl (Nat.le_of_ble_eq_true rfl) (Nat.le_of_ble_eq_true rfl) dX6_advance_195 (fun r_195 w_195 h_195 => ?_)
          obtain ⟨rfl, rfl⟩ := h_195
          refine jr_if_eq 269 dX6_advance_198 (by decide) (fun c_198 => absurd c_198 (jb_1.mpr ((hpd bg hbn).mpr hd))) (fun c_198 => ?_)
          exact h9
        · rw [if_neg hne, if_neg hl, if_neg hd] at eT
          refine jr_istore_2 dX6_advance_88 (by decide) rfl ?_
          refine jr_aload_n dX6_advance_89 rfl ?_
          refine jr_aload_n dX6_advance_90 rfl ?_
          refine gfX6_22 dX6_advance_91 (hw.k rfl) ?_
          rw [wI_sR_s, f3]
          refine pfX6_25 dX6_advance_94 (hw.k rfl) ?_
          rw [sR_sR, wI_sR_s, ← eF1]
          refine jr_aload_n dX6_advance_97 rfl ?_
          refine gfX6_22 dX6_advance_98 (hw.k rfl) ?_
          rw [wI_sR_s, g3]
          refine jr_aload_n dX6_advance_101 rfl ?_
          refine gfX6_15 dX6_advance_102 (hw.k rfl) ?_
          rw [wI_sR_s, go 1 (by decide) (by decide) (by decide), hB1]
          refine jr_icmp_lt 116 dX6_advance_105 (by decide) (fun c_105 => ?_) (fun c_105 => absurd (nI_lt hbn (by omega)) c_105)
          refine jr_aload_n dX6_advance_116 rfl ?_
          refine gfX6_9 46 dX6_advance_117 (hw.k rfl) (by exact hB0) ?_
          refine jr_aload_n dX6_advance_120 rfl ?_
          refine gfX6_22 dX6_advance_121 (hw.k rfl) ?_
          rw [wI_sR_s, g3]
          refine jr_bald bg (hw.k rfl) rfl ⟨by omega, by decide⟩ dX6_advance_124 ?_
          rw [wI_sR_n _ (by decide), hB2 bg hbn]
          refine jc_Si (c_rLetter g _ _) lkX6_69 rfl rfl (Nat.le_of_ble_eq_true rfl) (Nat.le_of_ble_eq_true rfl) dX6_advance_125 (fun r_125 w_125 h_125 => ?_)
          obtain ⟨rfl, rfl⟩ := h_125
          refine jr_if_eq 186 dX6_advance_128 (by decide) (fun c_128 => ?_) (fun c_128 => absurd (jb_f (fun h => hl ((hpl bg hbn).mp h))) c_128)
          refine jr_aload_n dX6_advance_186 rfl ?_
          refine gfX6_9 46 dX6_advance_187 (hw.k rfl) (by exact hB0) ?_
          refine jr_aload_n dX6_advance_190 rfl ?_
          refine gfX6_22 dX6_advance_191 (hw.k rfl) ?_
          rw [wI_sR_s, g3]
          refine jr_bald bg (hw.k rfl) rfl ⟨by omega, by decide⟩ dX6_advance_194 ?_
          rw [wI_sR_n _ (by decide), hB2 bg hbn]
          refine jc_Si (c_rDigit g _ _) lkX6_73 rfl rfl (Nat.le_of_ble_eq_true rfl) (Nat.le_of_ble_eq_true rfl) dX6_advance_195 (fun r_195 w_195 h_195 => ?_)
          obtain ⟨rfl, rfl⟩ := h_195
          refine jr_if_eq 269 dX6_advance_198 (by decide) (fun c_198 => ?_) (fun c_198 => absurd (jb_f (fun h => hd ((hpd bg hbn).mp h))) c_198)
          refine jr_aload_n dX6_advance_269 rfl ?_
          refine jr_dup dX6_advance_270 rfl ?_
          refine gfX6_25 dX6_advance_271 (hw.k rfl) ?_
          rw [wI_sR_s, g4]
          refine jr_iconst (1) dX6_advance_274 (by decide) ?_
          refine jr_iadd dX6_advance_275 ?_
          rw [jlit 1, nI_add]
          refine pfX6_25 dX6_advance_276 (hw.k rfl) ?_
          rw [sR_sR, wI_sR_s]
          refine jr_aload_n dX6_advance_279 rfl ?_
          refine jr_iconst (3) dX6_advance_280 (by decide) ?_
          refine pfX6_19 dX6_advance_281 (hw.k rfl) ?_
          rw [sR_sR, wI_sR_s]
          refine jr_vret rfl dX6_advance_284 ?_
          exact fin _ _ eT pk_us (by rw [pk_un (by decide), pk_un (by decide)]; exact g3) (by rw [pk_un (by decide), pk_us]) (fun j h2 h3 h4 => by rw [pk_un h2, pk_un h4]; exact go j h2 h3 h4) Q hQ
  have K68 : ∀ (f : Nat → Int32), f 3 = nI bg → f 4 = nI b0 → (∀ j, j ≠ 2 → j ≠ 3 → j ≠ 4 → f j = wI w 43 j) → RR g RX6 cX6_advance 3 none "advance" 2 0 0 0 0 68 [some (.ref (gb g + 43)), some (.int (jb bw)), none] [] (sR w 43 f) Q := by
    intro f f3 f4 fo
    by_cases hb : bw
    · by_cases he : b0 = bg
      · have h9 := K88 f (jb bw) 1 (Or.inr rfl) ⟨fun _ => ⟨hb, he⟩, fun _ => rfl⟩ f3 fo
        refine jr_iload_n dX6_advance_68 rfl ?_
        refine jr_if_eq 87 dX6_advance_69 (by decide) (fun c_69 => absurd c_69 (jb_1.mpr hb)) (fun c_69 => ?_)
        refine jr_aload_n dX6_advance_72 rfl ?_
        refine gfX6_22 dX6_advance_73 (hw.k rfl) ?_
        rw [wI_sR_s, f3]
        refine jr_aload_n dX6_advance_76 rfl ?_
        refine gfX6_25 dX6_advance_77 (hw.k rfl) ?_
        rw [wI_sR_s, f4]
        refine jr_icmp_ne 87 dX6_advance_80 (by decide) (fun c_80 => absurd (by rw [he]) c_80) (fun c_80 => ?_)
        refine jr_iconst (1) dX6_advance_83 (by decide) ?_
        refine jr_goto 88 dX6_advance_84 (by decide) ?_
        exact h9
      · have h9 := K88 f (jb bw) 0 (Or.inl rfl) ⟨fun h => absurd h (by decide), fun h => absurd h.2 he⟩ f3 fo
        refine jr_iload_n dX6_advance_68 rfl ?_
        refine jr_if_eq 87 dX6_advance_69 (by decide) (fun c_69 => absurd c_69 (jb_1.mpr hb)) (fun c_69 => ?_)
        refine jr_aload_n dX6_advance_72 rfl ?_
        refine gfX6_22 dX6_advance_73 (hw.k rfl) ?_
        rw [wI_sR_s, f3]
        refine jr_aload_n dX6_advance_76 rfl ?_
        refine gfX6_25 dX6_advance_77 (hw.k rfl) ?_
        rw [wI_sR_s, f4]
        refine jr_icmp_ne 87 dX6_advance_80 (by decide) (fun c_80 => ?_) (fun c_80 => absurd c_80 (fun h => he (nI_inj (by omega) (by omega) h).symm))
        refine jr_iconst (0) dX6_advance_87 (by decide) ?_
        exact h9
    · have h9 := K88 f (jb bw) 0 (Or.inl rfl) ⟨fun h => absurd h (by decide), fun h => absurd h.1 hb⟩ f3 fo
      refine jr_iload_n dX6_advance_68 rfl ?_
      refine jr_if_eq 87 dX6_advance_69 (by decide) (fun c_69 => ?_) (fun c_69 => absurd (jb_f hb) c_69)
      refine jr_iconst (0) dX6_advance_87 (by decide) ?_
      exact h9
  have L30 : ∀ (m b : Nat) (f : Nat → Int32), m + b = n → bg = runE (spB T n) m b → f 3 = nI b → f 4 = nI b0 → (∀ j, j ≠ 2 → j ≠ 3 → j ≠ 4 → f j = wI w 43 j) → RR g RX6 cX6_advance 3 none "advance" 2 0 0 0 0 30 [some (.ref (gb g + 43)), some (.int (jb bw)), none] [] (sR w 43 f) Q := by
    intro m
    induction m with
    | zero =>
      intro b f hm he f3 f4 fo
      have e1 : b = bg := he.symm
      subst e1
      refine jr_aload_n dX6_advance_30 rfl ?_
      refine gfX6_22 dX6_advance_31 (hw.k rfl) ?_
      rw [wI_sR_s, f3]
      refine jr_aload_n dX6_advance_34 rfl ?_
      refine gfX6_15 dX6_advance_35 (hw.k rfl) ?_
      rw [wI_sR_s, fo 1 (by decide) (by decide) (by decide), hB1]
      refine jr_icmp_ge 68 dX6_advance_38 (by decide) (fun c_38 => ?_) (fun c_38 => absurd (nI_le (by omega) (by omega)) c_38)
      exact K68 f f3 f4 fo
    | succ m ih =>
      intro b f hm he f3 f4 fo
      have hbn : b < n := by omega
      by_cases hc : T b = 32
      · have h9 := ih (b + 1) (upd f 3 (nI (b + 1))) (by omega) (he.trans (runE_t (decide_eq_true ⟨hbn, hc⟩))) pk_us (by rw [pk_un (by decide)]; exact f4) (fun j h2 h3 h4 => by rw [pk_un h3]; exact fo j h2 h3 h4)
        refine jr_aload_n dX6_advance_30 rfl ?_
        refine gfX6_22 dX6_advance_31 (hw.k rfl) ?_
        rw [wI_sR_s, f3]
        refine jr_aload_n dX6_advance_34 rfl ?_
        refine gfX6_15 dX6_advance_35 (hw.k rfl) ?_
        rw [wI_sR_s, fo 1 (by decide) (by decide) (by decide), hB1]
        refine jr_icmp_ge 68 dX6_advance_38 (by decide) (fun c_38 => absurd c_38 (nI_ge hbn (by omega))) (fun c_38 => ?_)
        refine jr_aload_n dX6_advance_41 rfl ?_
        refine gfX6_9 46 dX6_advance_42 (hw.k rfl) (by exact hB0) ?_
        refine jr_aload_n dX6_advance_45 rfl ?_
        refine gfX6_22 dX6_advance_46 (hw.k rfl) ?_
        rw [wI_sR_s, f3]
        refine jr_bald b (hw.k rfl) rfl ⟨by omega, by decide⟩ dX6_advance_49 ?_
        rw [wI_sR_n _ (by decide), hB2 b hbn]
        refine jr_bipush (32) dX6_advance_50 (by decide) ?_
        refine jr_icmp_ne 68 dX6_advance_52 (by decide) (fun c_52 => absurd ((sx_eq (hTB b hbn) (b := 32) (by decide)).mpr hc) c_52) (fun c_52 => ?_)
        refine jr_aload_n dX6_advance_55 rfl ?_
        refine jr_dup dX6_advance_56 rfl ?_
        refine gfX6_22 dX6_advance_57 (hw.k rfl) ?_
        rw [wI_sR_s, f3]
        refine jr_iconst (1) dX6_advance_60 (by decide) ?_
        refine jr_iadd dX6_advance_61 ?_
        rw [jlit 1, nI_add]
        refine pfX6_22 dX6_advance_62 (hw.k rfl) ?_
        rw [sR_sR, wI_sR_s]
        refine jr_goto 30 dX6_advance_65 (by decide) ?_
        exact h9
      · have e1 : bg = b := he.trans (runE_f (fun e => hc (of_decide_eq_true e).2))
        rw [← e1] at f3
        have h9 := K68 f f3 f4 fo
        rw [e1] at f3
        refine jr_aload_n dX6_advance_30 rfl ?_
        refine gfX6_22 dX6_advance_31 (hw.k rfl) ?_
        rw [wI_sR_s, f3]
        refine jr_aload_n dX6_advance_34 rfl ?_
        refine gfX6_15 dX6_advance_35 (hw.k rfl) ?_
        rw [wI_sR_s, fo 1 (by decide) (by decide) (by decide), hB1]
        refine jr_icmp_ge 68 dX6_advance_38 (by decide) (fun c_38 => absurd c_38 (nI_ge hbn (by omega))) (fun c_38 => ?_)
        refine jr_aload_n dX6_advance_41 rfl ?_
        refine gfX6_9 46 dX6_advance_42 (hw.k rfl) (by exact hB0) ?_
        refine jr_aload_n dX6_advance_45 rfl ?_
        refine gfX6_22 dX6_advance_46 (hw.k rfl) ?_
        rw [wI_sR_s, f3]
        refine jr_bald b (hw.k rfl) rfl ⟨by omega, by decide⟩ dX6_advance_49 ?_
        rw [wI_sR_n _ (by decide), hB2 b hbn]
        refine jr_bipush (32) dX6_advance_50 (by decide) ?_
        refine jr_icmp_ne 68 dX6_advance_52 (by decide) (fun c_52 => ?_) (fun c_52 => absurd c_52 (fun h => hc ((sx_eq (hTB b hbn) (b := 32) (by decide)).mp h)))
        exact h9
  have K21 : RR g RX6 cX6_advance 3 none "advance" 2 0 0 0 0 21 [some (.ref (gb g + 43)), none, none] [.int (jb bw)] w Q := by
    have h9 := L30 (n - b0) b0 (upd (wI w 43) 3 (nI b0)) (by omega) ebg pk_us (by rw [pk_un (by decide)]; exact h4) (fun j h2 h3 h4 => by rw [pk_un h3])
    refine jr_istore_1 dX6_advance_21 (by decide) rfl ?_
    refine jr_aload_n dX6_advance_22 rfl ?_
    refine jr_aload_n dX6_advance_23 rfl ?_
    refine gfX6_25 dX6_advance_24 (hw.k rfl) ?_
    rw [h4]
    refine pfX6_22 dX6_advance_27 (hw.k rfl) ?_
    exact h9
  refine jr_aload_n dX6_advance_0 rfl ?_
  refine gfX6_19 dX6_advance_1 (hw.k rfl) ?_
  refine jr_iconst (1) dX6_advance_4 (by decide) ?_
  refine jr_icmp_eq 16 dX6_advance_5 (by decide) (fun c_5 => ?_) (fun c_5 => ?_)
  · refine jr_iconst (1) dX6_advance_16 (by decide) ?_
    refine jr_goto 21 dX6_advance_17 (by decide) ?_
    first
    | (have hb : bw := hbw.mp (Or.inl c_5)
       rw [jb_t hb] at K21
       exact K21)
    | (have hb : bw := hbw.mp (Or.inr c_13)
       rw [jb_t hb] at K21
       exact K21)
    | (have hb : ¬ bw := fun h => (hbw.mpr h).elim c_5 c_13
       rw [jb_f hb] at K21
       exact K21)
  · refine jr_aload_n dX6_advance_8 rfl ?_
    refine gfX6_19 dX6_advance_9 (hw.k rfl) ?_
    refine jr_iconst (2) dX6_advance_12 (by decide) ?_
    refine jr_icmp_ne 20 dX6_advance_13 (by decide) (fun c_13 => ?_) (fun c_13 => ?_)
    · refine jr_iconst (0) dX6_advance_20 (by decide) ?_
      first
      | (have hb : bw := hbw.mp (Or.inl c_5)
         rw [jb_t hb] at K21
         exact K21)
      | (have hb : bw := hbw.mp (Or.inr c_13)
         rw [jb_t hb] at K21
         exact K21)
      | (have hb : ¬ bw := fun h => (hbw.mpr h).elim c_5 c_13
         rw [jb_f hb] at K21
         exact K21)
    · refine jr_iconst (1) dX6_advance_16 (by decide) ?_
      refine jr_goto 21 dX6_advance_17 (by decide) ?_
      first
      | (have hb : bw := hbw.mp (Or.inl c_5)
         rw [jb_t hb] at K21
         exact K21)
      | (have hb : bw := hbw.mp (Or.inr c_13)
         rw [jb_t hb] at K21
         exact K21)
      | (have hb : ¬ bw := fun h => (hbw.mpr h).elim c_5 c_13
         rw [jb_f hb] at K21
         exact K21)
