-- the reference: a minute
def rm100 (x : Int32) : Int32 := x - x / 100 * 100
def zN (z : Int32) : Nat → Int32
  | 0 => z
  | n + 1 => drawZ (zN z n)
/-- of n strokes, how many are heard -/
def tkF (ear z : Int32) : Nat → Nat
  | 0 => 0
  | n + 1 => tkF ear z n + (if ear ≤ rm100 (drawV (zN z n)) then 0 else 1)
theorem tk_le (ear z : Int32) : ∀ n, tkF ear z n ≤ n
  | 0 => Nat.le_refl _
  | n + 1 => by
    have := tk_le ear z n
    simp only [tkF]
    split <;> omega
def hrR (s : Nat → Int32) (i : Nat) : Nat → Int32 := fun j => if j = 9 then zN (s 9) i else if j = 4 then s 4 + nI (i - tkF (s 6) (s 9) i) else s j
theorem zN_s (z : Int32) (n : Nat) : zN z (n + 1) = drawZ (zN z n) := rfl
theorem tk_s (ear z : Int32) (n : Nat) : tkF ear z (n + 1) = tkF ear z n + (if ear ≤ rm100 (drawV (zN z n)) then 0 else 1) := rfl
theorem hrR_9 (s : Nat → Int32) (i : Nat) : hrR s i 9 = zN (s 9) i := if_pos rfl
theorem hrR_4 (s : Nat → Int32) (i : Nat) : hrR s i 4 = s 4 + nI (i - tkF (s 6) (s 9) i) := by unfold hrR; rw [if_neg (by decide), if_pos rfl]
theorem hrR_o (s : Nat → Int32) (i : Nat) {j : Nat} (h9 : j ≠ 9) (h4 : j ≠ 4) : hrR s i j = s j := by unfold hrR; rw [if_neg h9, if_neg h4]
theorem hrR_0 (s : Nat → Int32) : hrR s 0 = s := by
  funext j
  by_cases h9 : j = 9
  · rw [h9, hrR_9, zN]
  · by_cases h4 : j = 4
    · rw [h4, hrR_4, Nat.zero_sub, nI_0, Int32.add_zero]
    · rw [hrR_o s 0 h9 h4]
theorem hrR_s {s : Nat → Int32} {i : Nat} {v : Int32} (hv : s 4 + nI (i - tkF (s 6) (s 9) i) + v = s 4 + nI (i + 1 - tkF (s 6) (s 9) (i + 1))) : upd (upd (hrR s i) 9 (drawZ (hrR s i 9))) 4 (upd (hrR s i) 9 (drawZ (hrR s i 9)) 4 + v) = hrR s (i + 1) := by
  funext j
  by_cases h4 : j = 4
  · rw [h4, pk_us, pk_un (by decide), hrR_4, hrR_4, hv]
  · rw [pk_un h4]
    by_cases h9 : j = 9
    · rw [h9, pk_us, hrR_9, hrR_9, zN_s]
    · rw [pk_un h9, hrR_o s i h9 h4, hrR_o s (i + 1) h9 h4]
/-- a mistaken one: 1 or 0 -/
def mkF (noise z : Int32) : Nat := if noise ≤ rm100 (drawV z) then 0 else 1
/-- a minute in which there are n strokes -/
def minF (s : Nat → Int32) (n : Nat) : Nat → Int32 := fun j =>
  if j = 2 then s 2 + 1 else if j = 3 then s 3 + nI (tkF (s 6) (s 9) n) else if j = 4 then s 4 + nI (n - tkF (s 6) (s 9) n) else if j = 5 then s 5 + nI (mkF (s 7) (zN (s 9) n))
  else if j = 8 then (if 12 ≤ (s 8).toInt then s 8 else s 8 + 1) else if j = 9 then drawZ (zN (s 9) n) else if j = 28 then nI (tkF (s 6) (s 9) n + mkF (s 7) (zN (s 9) n))
  else if 28 < j ∧ j < 40 then s (j - 1) else s j
theorem min_2 (s : Nat → Int32) (n : Nat) : minF s n 2 = s 2 + 1 := by unfold minF; rw [if_pos rfl]
theorem min_3 (s : Nat → Int32) (n : Nat) : minF s n 3 = s 3 + nI (tkF (s 6) (s 9) n) := by unfold minF; rw [if_neg (by decide), if_pos rfl]
theorem min_4 (s : Nat → Int32) (n : Nat) : minF s n 4 = s 4 + nI (n - tkF (s 6) (s 9) n) := by unfold minF; rw [if_neg (by decide), if_neg (by decide), if_pos rfl]
theorem min_5 (s : Nat → Int32) (n : Nat) : minF s n 5 = s 5 + nI (mkF (s 7) (zN (s 9) n)) := by unfold minF; rw [if_neg (by decide), if_neg (by decide), if_neg (by decide), if_pos rfl]
theorem min_8 (s : Nat → Int32) (n : Nat) : minF s n 8 = (if 12 ≤ (s 8).toInt then s 8 else s 8 + 1) := by unfold minF; rw [if_neg (by decide), if_neg (by decide), if_neg (by decide), if_neg (by decide), if_pos rfl]
theorem min_9 (s : Nat → Int32) (n : Nat) : minF s n 9 = drawZ (zN (s 9) n) := by unfold minF; rw [if_neg (by decide), if_neg (by decide), if_neg (by decide), if_neg (by decide), if_neg (by decide), if_pos rfl]
theorem min_28 (s : Nat → Int32) (n : Nat) : minF s n 28 = nI (tkF (s 6) (s 9) n + mkF (s 7) (zN (s 9) n)) := by unfold minF; rw [if_neg (by decide), if_neg (by decide), if_neg (by decide), if_neg (by decide), if_neg (by decide), if_neg (by decide), if_pos rfl]
theorem min_n (s : Nat → Int32) (n : Nat) {j : Nat} (h : 28 < j ∧ j < 40) : minF s n j = s (j - 1) := by unfold minF; rw [if_neg (by omega), if_neg (by omega), if_neg (by omega), if_neg (by omega), if_neg (by omega), if_neg (by omega), if_neg (by omega), if_pos h]
theorem min_o (s : Nat → Int32) (n : Nat) {j : Nat} (h2 : j ≠ 2) (h3 : j ≠ 3) (h4 : j ≠ 4) (h5 : j ≠ 5) (h8 : j ≠ 8) (h9 : j ≠ 9) (hn : j < 28 ∨ 40 ≤ j) : minF s n j = s j := by unfold minF; rw [if_neg h2, if_neg h3, if_neg h4, if_neg h5, if_neg h8, if_neg h9, if_neg (by omega), if_neg (by omega)]
def goF (s : Nat → Int32) : Nat → Int32 := minF s (totF s (sN s 2 % 720) (sN s 0))
def scS : Nat → Prop := fun i => i = 79 ∨ i = 93 ∨ i = 94
theorem scS_n {i : Nat} (h : i < 93) (h2 : i ≠ 79) : ¬ scS i := fun e => by rcases e with e | e | e <;> omega
theorem scM_S {i : Nat} (h : scM i) : scS i := h.elim (fun e => Or.inr (Or.inl e)) (fun e => Or.inr (Or.inr e))
/-- notes move by one, from the 11th down to behind the k-th -/
def shR (r : Nat → Int32) (k : Nat) : Nat → Int32 := fun j => if 28 + k < j ∧ j < 40 then r (j - 1) else r j
theorem shR_s {r : Nat → Int32} {k : Nat} (hk : k < 11) : upd (shR r (k + 1)) (28 + (k + 1)) (shR r (k + 1) (28 + (k + 1) - 1)) = shR r k := by
  funext j
  unfold upd shR
  by_cases h : j = 28 + (k + 1)
  · subst h
    rw [if_pos rfl, if_neg (by omega), if_pos (by omega)]
  · rw [if_neg h]
    by_cases h2 : 28 + (k + 1) < j ∧ j < 40
    · rw [if_pos h2, if_pos (by omega)]
    · rw [if_neg h2, if_neg (by omega)]
theorem shR_0 (r : Nat → Int32) : shR r 11 = r := by
  funext j
  unfold shR
  rw [if_neg (by omega)]
theorem shR_o {r : Nat → Int32} {k j : Nat} (h : j ≤ 28 + k ∨ 40 ≤ j) : shR r k j = r j := by unfold shR; rw [if_neg (by omega)]
theorem shR_n {r : Nat → Int32} {k j : Nat} (h : 28 + k < j ∧ j < 40) : shR r k j = r (j - 1) := by unfold shR; rw [if_pos h]
/-- the end of a minute: notes moved, the newest h; one note more, one minute more -/
def FinR (r r' : Nat → Int32) (h : Int32) : Prop := r' 2 = r 2 + 1 ∧ r' 8 = (if 12 ≤ (r 8).toInt then r 8 else r 8 + 1) ∧ r' 28 = h ∧ (∀ j, 28 < j ∧ j < 40 → r' j = r (j - 1)) ∧ ∀ j, j ≠ 2 → j ≠ 8 → (j < 28 ∨ 40 ≤ j) → r' j = r j
theorem FinR.eq {r r1 r2 : Nat → Int32} {h : Int32} (a : FinR r r1 h) (b : FinR r r2 h) : r1 = r2 := by
  obtain ⟨a1, a2, a3, a4, a5⟩ := a
  obtain ⟨b1, b2, b3, b4, b5⟩ := b
  funext j
  by_cases h2 : j = 2
  · rw [h2, a1, b1]
  · by_cases h8 : j = 8
    · rw [h8, a2, b2]
    · by_cases h28 : j = 28
      · rw [h28, a3, b3]
      · by_cases hn : 28 < j ∧ j < 40
        · rw [a4 j hn, b4 j hn]
        · rw [a5 j h2 h8 (by omega), b5 j h2 h8 (by omega)]
theorem finR_of (r : Nat → Int32) (h v : Int32) (hv : r 8 + v = (if 12 ≤ (r 8).toInt then r 8 else r 8 + 1)) : FinR r (upd (upd (upd (shR r 0) 28 h) 8 (upd (shR r 0) 28 h 8 + v)) 2 (upd (upd (shR r 0) 28 h) 8 (upd (shR r 0) 28 h 8 + v) 2 + 1)) h := by
  refine ⟨?_, ?_, ?_, fun j hj => ?_, fun j h2 h8 hj => ?_⟩
  · rw [pk_us, pk_un (by decide), pk_un (by decide), shR_o (by omega)]
  · rw [pk_un (by decide), pk_us, pk_un (by decide), shR_o (by omega), hv]
  · rw [pk_un (by decide), pk_un (by decide), pk_us]
  · rw [pk_un (by omega), pk_un (by omega), pk_un (by omega), shR_n (by omega)]
  · rw [pk_un h2, pk_un h8, pk_un (by omega), shR_o (by omega)]
theorem minF_0 (s : Nat → Int32) (n : Nat) (hm : mkF (s 7) (zN (s 9) n) = 0) (r : Nat → Int32) (hr : r = upd (upd (hrR s n) 3 (hrR s n 3 + nI (tkF (s 6) (s 9) n))) 9 (drawZ (upd (hrR s n) 3 (hrR s n 3 + nI (tkF (s 6) (s 9) n)) 9))) : FinR r (minF s n) (nI (tkF (s 6) (s 9) n)) := by
  have e : ∀ j, j ≠ 3 → j ≠ 4 → j ≠ 9 → r j = s j := fun j h3 h4 h9 => by rw [hr, pk_un h9, pk_un h3, hrR_o s n h9 h4]
  refine ⟨?_, ?_, ?_, fun j hj => ?_, fun j h2 h8 hj => ?_⟩
  · rw [min_2, e 2 (by decide) (by decide) (by decide)]
  · rw [min_8, e 8 (by decide) (by decide) (by decide)]
  · rw [min_28, hm, Nat.add_zero]
  · rw [min_n s n hj, e (j - 1) (by omega) (by omega) (by omega)]
  · by_cases h3 : j = 3
    · rw [h3, min_3, hr, pk_un (by decide), pk_us, hrR_o s n (by decide) (by decide)]
    · by_cases h4 : j = 4
      · rw [h4, min_4, hr, pk_un (by decide), pk_un (by decide), hrR_4]
      · by_cases h9 : j = 9
        · rw [h9, min_9, hr, pk_us, pk_un (by decide), hrR_9]
        · rw [e j h3 h4 h9]
          by_cases h5 : j = 5
          · rw [h5, min_5, hm, nI_0, Int32.add_zero]
          · rw [min_o s n h2 h3 h4 h5 h8 h9 hj]
theorem minF_1 (s : Nat → Int32) (n : Nat) (hm : mkF (s 7) (zN (s 9) n) = 1) (r r0 : Nat → Int32) (h0 : r0 = upd (upd (hrR s n) 3 (hrR s n 3 + nI (tkF (s 6) (s 9) n))) 9 (drawZ (upd (hrR s n) 3 (hrR s n 3 + nI (tkF (s 6) (s 9) n)) 9))) (hr : r = upd r0 5 (r0 5 + 1)) : FinR r (minF s n) (nI (tkF (s 6) (s 9) n + 1)) := by
  have e0 : ∀ j, j ≠ 3 → j ≠ 4 → j ≠ 9 → r0 j = s j := fun j h3 h4 h9 => by rw [h0, pk_un h9, pk_un h3, hrR_o s n h9 h4]
  have e : ∀ j, j ≠ 3 → j ≠ 4 → j ≠ 9 → j ≠ 5 → r j = s j := fun j h3 h4 h9 h5 => by rw [hr, pk_un h5, e0 j h3 h4 h9]
  refine ⟨?_, ?_, ?_, fun j hj => ?_, fun j h2 h8 hj => ?_⟩
  · rw [min_2, e 2 (by decide) (by decide) (by decide) (by decide)]
  · rw [min_8, e 8 (by decide) (by decide) (by decide) (by decide)]
  · rw [min_28, hm]
  · rw [min_n s n hj, e (j - 1) (by omega) (by omega) (by omega) (by omega)]
  · by_cases h3 : j = 3
    · rw [h3, min_3, hr, pk_un (by decide), h0, pk_un (by decide), pk_us, hrR_o s n (by decide) (by decide)]
    · by_cases h4 : j = 4
      · rw [h4, min_4, hr, pk_un (by decide), h0, pk_un (by decide), pk_un (by decide), hrR_4]
      · by_cases h9 : j = 9
        · rw [h9, min_9, hr, pk_un (by decide), h0, pk_us, pk_un (by decide), hrR_9]
        · by_cases h5 : j = 5
          · rw [h5, min_5, hm, hr, pk_us, e0 5 (by decide) (by decide) (by decide)]
            rfl
          · rw [e j h3 h4 h9 h5, min_o s n h2 h3 h4 h5 h8 h9 hj]
theorem mk_0 {s : Nat → Int32} {n : Nat} {v u : Int32} (h : upd (upd (hrR s n) 3 v) 9 u 7 ≤ drawV (upd (hrR s n) 3 v 9) - drawV (upd (hrR s n) 3 v 9) / 100 * 100) : mkF (s 7) (zN (s 9) n) = 0 := by
  rw [pk_un (by decide), pk_un (by decide), pk_un (by decide), hrR_9, hrR_o s n (by decide) (by decide)] at h
  exact if_pos h
theorem mk_1 {s : Nat → Int32} {n : Nat} {v u : Int32} (h : ¬ upd (upd (hrR s n) 3 v) 9 u 7 ≤ drawV (upd (hrR s n) 3 v 9) - drawV (upd (hrR s n) 3 v 9) / 100 * 100) : mkF (s 7) (zN (s 9) n) = 1 := by
  rw [pk_un (by decide), pk_un (by decide), pk_un (by decide), hrR_9, hrR_o s n (by decide) (by decide)] at h
  exact if_neg h
theorem tk_0 {s : Nat → Int32} {i : Nat} {u : Int32} (h : upd (hrR s i) 9 u 6 ≤ drawV (hrR s i 9) - drawV (hrR s i 9) / 100 * 100) : tkF (s 6) (s 9) (i + 1) = tkF (s 6) (s 9) i := by
  rw [pk_un (by decide), hrR_9, hrR_o s i (by decide) (by decide)] at h
  rw [tk_s, rm100, if_pos h, Nat.add_zero]
theorem tk_1 {s : Nat → Int32} {i : Nat} {u : Int32} (h : ¬ upd (hrR s i) 9 u 6 ≤ drawV (hrR s i 9) - drawV (hrR s i 9) / 100 * 100) : tkF (s 6) (s 9) (i + 1) = tkF (s 6) (s 9) i + 1 := by
  rw [pk_un (by decide), hrR_9, hrR_o s i (by decide) (by decide)] at h
  rw [tk_s, rm100, if_neg h]
theorem c_goesOn (g : Cx) (w : Wd) (hw : Wf w) (s : Nat → Int32) (hs : wI w 79 = s) (hG : Gd s) : CV g yX9_goesOn cX9_goesOn 4 6 0 0 [.ref (gb g + 78)] w (fun w' => wI w' 79 = goF s ∧ Sm scS w w') := by
  obtain ⟨h0, -, hmi, hea, hno, hnn, -⟩ := id hG
  refine CV.of (own := RX9) (nm := "goesOn") (lv := [some (.ref (gb g + 78)), none, none, none]) (by decide) rfl rfl (Nat.le_of_ble_eq_true rfl) rfl (fun Q hQ => ?_)
  obtain ⟨N, hN⟩ : ∃ x, x = totF s (sN s 2 % 720) (sN s 0) := ⟨_, rfl⟩
  have hN96 : N ≤ 96 := by rw [hN]; have := tot_le s (sN s 2 % 720) (sN s 0); have := h0.2; omega
  have hgo : goF s = minF s N := by rw [hN]; rfl
  -- the notes move
  have L2 : ∀ (k : Nat) (w1 : Wd) (r : Nat → Int32) (h : Int32) (a3 : Option Value), k ≤ 11 → Sm scS w w1 → wI w1 79 = shR r k → FinR r (minF s N) h → RR g RX9 cX9_goesOn 4 none "goesOn" 6 0 0 0 0 117 [some (.ref (gb g + 78)), some (.int h), some (.int (nI k)), a3] [] w1 Q := by
    intro k
    induction k with
    | zero =>
      intro w1 r h a3 hk hS hr hf
      have hw1 := hS.wf hw
      refine jr_iload_n dX9_goesOn_117 rfl ?_
      refine jr_if_le 147 dX9_goesOn_118 (by decide) (fun c_118 => ?_) (fun c_118 => absurd (by decide) c_118)
      refine jr_aload_n dX9_goesOn_147 rfl ?_
      refine gfX9_7 79 dX9_goesOn_148 (hw1.k rfl) (hw1.f rfl) ?_
      refine jr_bipush (28) dX9_goesOn_151 (by decide) ?_
      refine jr_iload_n dX9_goesOn_153 rfl ?_
      refine jr_iast 28 (hw1.k rfl) rfl (by decide) dX9_goesOn_154 ?_
      refine jr_aload_n dX9_goesOn_155 rfl ?_
      refine gfX9_7 79 dX9_goesOn_156 (hw1.k rfl) (hw1.f rfl) ?_
      refine jr_bipush (8) dX9_goesOn_159 (by decide) ?_
      refine jr_dup2 dX9_goesOn_161 rfl rfl ?_
      refine jr_iald 8 (hw1.k rfl) rfl (by decide) dX9_goesOn_162 ?_
      refine jr_aload_n dX9_goesOn_163 rfl ?_
      refine gfX9_7 79 dX9_goesOn_164 (hw1.k rfl) (hw1.f rfl) ?_
      refine jr_bipush (8) dX9_goesOn_167 (by decide) ?_
      refine jr_iald 8 (hw1.k rfl) rfl (by decide) dX9_goesOn_169 ?_
      refine jr_bipush (12) dX9_goesOn_170 (by decide) ?_
      refine jr_icmp_ge 179 dX9_goesOn_172 (by decide) (fun c_172 => ?_) (fun c_172 => ?_)
      · simp only [lt_i, le_i, eq_i, Int32.reduceToInt] at c_172
        refine jr_iconst (0) dX9_goesOn_179 (by decide) ?_
        refine jr_iadd dX9_goesOn_180 ?_
        refine jr_iast 8 (hw1.k rfl) rfl (by decide) dX9_goesOn_181 ?_
        refine jr_aload_n dX9_goesOn_182 rfl ?_
        refine gfX9_7 79 dX9_goesOn_183 (hw1.k rfl) (hw1.f rfl) ?_
        refine jr_iconst (2) dX9_goesOn_186 (by decide) ?_
        refine jr_dup2 dX9_goesOn_187 rfl rfl ?_
        refine jr_iald 2 (hw1.k rfl) rfl (by decide) dX9_goesOn_188 ?_
        refine jr_iconst (1) dX9_goesOn_189 (by decide) ?_
        refine jr_iadd dX9_goesOn_190 ?_
        refine jr_iast 2 (hw1.k rfl) rfl (by decide) dX9_goesOn_191 ?_
        refine jr_vret rfl dX9_goesOn_192 ?_
        refine hQ _ ⟨?_, ((hS.tr (Sm.sR (Or.inl rfl))).tr (Sm.sR (Or.inl rfl))).tr (Sm.sR (Or.inl rfl))⟩
        simp only [wI_sR_s] at c_172
        simp only [wI_sR_s, hr]
        rw [hr] at c_172
        rw [hgo]
        rw [pk_un (by decide), shR_o (by omega)] at c_172
        first | exact (finR_of r h 0 (by rw [if_pos c_172, Int32.add_zero])).eq hf | exact (finR_of r h 1 (by rw [if_neg c_172])).eq hf
      · simp only [lt_i, le_i, eq_i, Int32.reduceToInt] at c_172
        refine jr_iconst (1) dX9_goesOn_175 (by decide) ?_
        refine jr_goto 180 dX9_goesOn_176 (by decide) ?_
        refine jr_iadd dX9_goesOn_180 ?_
        refine jr_iast 8 (hw1.k rfl) rfl (by decide) dX9_goesOn_181 ?_
        refine jr_aload_n dX9_goesOn_182 rfl ?_
        refine gfX9_7 79 dX9_goesOn_183 (hw1.k rfl) (hw1.f rfl) ?_
        refine jr_iconst (2) dX9_goesOn_186 (by decide) ?_
        refine jr_dup2 dX9_goesOn_187 rfl rfl ?_
        refine jr_iald 2 (hw1.k rfl) rfl (by decide) dX9_goesOn_188 ?_
        refine jr_iconst (1) dX9_goesOn_189 (by decide) ?_
        refine jr_iadd dX9_goesOn_190 ?_
        refine jr_iast 2 (hw1.k rfl) rfl (by decide) dX9_goesOn_191 ?_
        refine jr_vret rfl dX9_goesOn_192 ?_
        refine hQ _ ⟨?_, ((hS.tr (Sm.sR (Or.inl rfl))).tr (Sm.sR (Or.inl rfl))).tr (Sm.sR (Or.inl rfl))⟩
        simp only [wI_sR_s] at c_172
        simp only [wI_sR_s, hr]
        rw [hr] at c_172
        rw [hgo]
        rw [pk_un (by decide), shR_o (by omega)] at c_172
        first | exact (finR_of r h 0 (by rw [if_pos c_172, Int32.add_zero])).eq hf | exact (finR_of r h 1 (by rw [if_neg c_172])).eq hf
    | succ k ih =>
      intro w1 r h a3 hk hS hr hf
      have hw1 := hS.wf hw
      refine jr_iload_n dX9_goesOn_117 rfl ?_
      refine jr_if_le 147 dX9_goesOn_118 (by decide) (fun c_118 => absurd c_118 (nI_nle (by omega) (by omega))) (fun c_118 => ?_)
      refine jr_aload_n dX9_goesOn_121 rfl ?_
      refine gfX9_7 79 dX9_goesOn_122 (hw1.k rfl) (hw1.f rfl) ?_
      refine jr_bipush (28) dX9_goesOn_125 (by decide) ?_
      refine jr_iload_n dX9_goesOn_127 rfl ?_
      refine jr_iadd dX9_goesOn_128 ?_
      refine jr_aload_n dX9_goesOn_129 rfl ?_
      refine gfX9_7 79 dX9_goesOn_130 (hw1.k rfl) (hw1.f rfl) ?_
      refine jr_bipush (28) dX9_goesOn_133 (by decide) ?_
      refine jr_iload_n dX9_goesOn_135 rfl ?_
      refine jr_iadd dX9_goesOn_136 ?_
      refine jr_iconst (1) dX9_goesOn_137 (by decide) ?_
      refine jr_isub dX9_goesOn_138 ?_
      refine jr_iald (28 + (k + 1) - 1) (hw1.k rfl) (by rw [jlit 28, nI_add, sub1 (by omega)]) ⟨by omega, by decide⟩ dX9_goesOn_139 ?_
      refine jr_iast (28 + (k + 1)) (hw1.k rfl) (by rw [jlit 28, nI_add]) ⟨by omega, by decide⟩ dX9_goesOn_140 ?_
      refine jr_iinc_2 (nI k) dX9_goesOn_141 (pk_m1 k) (by decide) rfl ?_
      refine jr_goto 117 dX9_goesOn_144 (by decide) ?_
      exact ih _ r h _ (by omega) (hS.tr (Sm.sR (Or.inl rfl))) (by rw [wI_sR_s, hr]; exact shR_s (by omega)) hf
  have K114 : ∀ (w1 : Wd) (h : Int32) (a2 a3 : Option Value), Sm scS w w1 → FinR (wI w1 79) (minF s N) h → RR g RX9 cX9_goesOn 4 none "goesOn" 6 0 0 0 0 114 [some (.ref (gb g + 78)), some (.int h), a2, a3] [] w1 Q := by
    intro w1 h a2 a3 hS hf
    refine jr_bipush (11) dX9_goesOn_114 (by decide) ?_
    refine jr_istore_2 dX9_goesOn_116 (by decide) rfl ?_
    exact L2 11 w1 (wI w1 79) h a3 (by omega) hS (shR_0 _).symm hf
  have K74 : ∀ (w1 : Wd) (a3 : Option Value), Sm scS w w1 → wI w1 79 = hrR s N → RR g RX9 cX9_goesOn 4 none "goesOn" 6 0 0 0 0 74 [some (.ref (gb g + 78)), some (.int (nI (tkF (s 6) (s 9) N))), some (.int (nI 0)), a3] [] w1 Q := by
    intro w1 a3 hS hr
    have hw1 := hS.wf hw
    refine jr_aload_n dX9_goesOn_74 rfl ?_
    refine gfX9_7 79 dX9_goesOn_75 (hw1.k rfl) (hw1.f rfl) ?_
    refine jr_iconst (3) dX9_goesOn_78 (by decide) ?_
    refine jr_dup2 dX9_goesOn_79 rfl rfl ?_
    refine jr_iald 3 (hw1.k rfl) rfl (by decide) dX9_goesOn_80 ?_
    refine jr_iload_n dX9_goesOn_81 rfl ?_
    refine jr_iadd dX9_goesOn_82 ?_
    refine jr_iast 3 (hw1.k rfl) rfl (by decide) dX9_goesOn_83 ?_
    refine jr_aload_n dX9_goesOn_84 rfl ?_
    refine jc_Vi (c_drawn g _ (by exact hw1)) lkX9_141 (hw1.k rfl) rfl rfl (Nat.le_of_ble_eq_true rfl) (Nat.le_of_ble_eq_true rfl) dX9_goesOn_85 (fun r_85 w_85 h_85 => ?_)
    obtain ⟨rfl, rfl⟩ := h_85
    refine jr_bipush (100) dX9_goesOn_88 (by decide) ?_
    refine jr_irem dX9_goesOn_90 (by decide) ?_
    refine jr_aload_n dX9_goesOn_91 rfl ?_
    refine gfX9_7 79 dX9_goesOn_92 (hw1.k rfl) (hw1.f rfl) ?_
    refine jr_bipush (7) dX9_goesOn_95 (by decide) ?_
    refine jr_iald 7 (hw1.k rfl) rfl (by decide) dX9_goesOn_97 ?_
    refine jr_icmp_ge 114 dX9_goesOn_98 (by decide) (fun c_98 => ?_) (fun c_98 => ?_)
    · rw [wI_sR_s] at c_98
      rw [wI_sR_s, hr] at c_98
      have hm : mkF (s 7) (zN (s 9) N) = 0 := mk_0 c_98
      first | exact K114 _ _ _ _ ((hS.tr (Sm.sR (Or.inl rfl))).tr (Sm.sR (Or.inl rfl))) (minF_0 s N hm _ (by simp only [wI_sR_s, hr])) | exact K114 _ _ _ _ (((hS.tr (Sm.sR (Or.inl rfl))).tr (Sm.sR (Or.inl rfl))).tr (Sm.sR (Or.inl rfl))) (minF_1 s N hm _ _ rfl (by simp only [wI_sR_s, hr]))
    · rw [wI_sR_s] at c_98
      rw [wI_sR_s, hr] at c_98
      have hm : mkF (s 7) (zN (s 9) N) = 1 := mk_1 c_98
      refine jr_iinc_1 (nI (tkF (s 6) (s 9) N + 1)) dX9_goesOn_101 (inc1 _) (by decide) rfl ?_
      refine jr_aload_n dX9_goesOn_104 rfl ?_
      refine gfX9_7 79 dX9_goesOn_105 (hw1.k rfl) (hw1.f rfl) ?_
      refine jr_iconst (5) dX9_goesOn_108 (by decide) ?_
      refine jr_dup2 dX9_goesOn_109 rfl rfl ?_
      refine jr_iald 5 (hw1.k rfl) rfl (by decide) dX9_goesOn_110 ?_
      refine jr_iconst (1) dX9_goesOn_111 (by decide) ?_
      refine jr_iadd dX9_goesOn_112 ?_
      refine jr_iast 5 (hw1.k rfl) rfl (by decide) dX9_goesOn_113 ?_
      first | exact K114 _ _ _ _ ((hS.tr (Sm.sR (Or.inl rfl))).tr (Sm.sR (Or.inl rfl))) (minF_0 s N hm _ (by simp only [wI_sR_s, hr])) | exact K114 _ _ _ _ (((hS.tr (Sm.sR (Or.inl rfl))).tr (Sm.sR (Or.inl rfl))).tr (Sm.sR (Or.inl rfl))) (minF_1 s N hm _ _ rfl (by simp only [wI_sR_s, hr]))
  have L1 : ∀ (m i : Nat) (w1 : Wd) (a3 : Option Value), m + i = N → Sm scS w w1 → wI w1 79 = hrR s i → RR g RX9 cX9_goesOn 4 none "goesOn" 6 0 0 0 0 11 [some (.ref (gb g + 78)), some (.int (nI (tkF (s 6) (s 9) i))), some (.int (nI m)), a3] [] w1 Q := by
    intro m
    induction m with
    | zero =>
      intro i w1 a3 hi hS hr
      have e : i = N := by omega
      subst e
      have hw1 := hS.wf hw
      refine jr_iload_n dX9_goesOn_11 rfl ?_
      refine jr_if_le 74 dX9_goesOn_12 (by decide) (fun c_12 => ?_) (fun c_12 => absurd (by decide) c_12)
      exact K74 w1 a3 hS hr
    | succ m ih =>
      intro i w1 a3 hi hS hr
      have hw1 := hS.wf hw
      have htk := tk_le (s 6) (s 9) i
      refine jr_iload_n dX9_goesOn_11 rfl ?_
      refine jr_if_le 74 dX9_goesOn_12 (by decide) (fun c_12 => absurd c_12 (nI_nle (by omega) (by omega))) (fun c_12 => ?_)
      refine jr_aload_n dX9_goesOn_15 rfl ?_
      refine jc_Vi (c_drawn g _ hw1) lkX9_141 (hw1.k rfl) rfl rfl (Nat.le_of_ble_eq_true rfl) (Nat.le_of_ble_eq_true rfl) dX9_goesOn_16 (fun r_16 w_16 h_16 => ?_)
      obtain ⟨rfl, rfl⟩ := h_16
      refine jr_bipush (100) dX9_goesOn_19 (by decide) ?_
      refine jr_irem dX9_goesOn_21 (by decide) ?_
      refine jr_aload_n dX9_goesOn_22 rfl ?_
      refine gfX9_7 79 dX9_goesOn_23 (hw1.k rfl) (hw1.f rfl) ?_
      refine jr_bipush (6) dX9_goesOn_26 (by decide) ?_
      refine jr_iald 6 (hw1.k rfl) rfl (by decide) dX9_goesOn_28 ?_
      refine jr_icmp_ge 36 dX9_goesOn_29 (by decide) (fun c_29 => ?_) (fun c_29 => ?_)
      · rw [wI_sR_s, hr] at c_29
        have ht := tk_0 c_29
        refine jr_iconst (0) dX9_goesOn_36 (by decide) ?_
        refine jr_istore_3 dX9_goesOn_37 (by decide) rfl ?_
        refine jr_iload_n dX9_goesOn_38 rfl ?_
        refine jr_iload_n dX9_goesOn_39 rfl ?_
        refine jr_if_eq 47 dX9_goesOn_40 (by decide) (fun c_40 => ?_) (fun c_40 => absurd (by decide) c_40)
        refine jr_iconst (0) dX9_goesOn_47 (by decide) ?_
        refine jr_iadd dX9_goesOn_48 ?_
        first | rw [Int32.add_zero] | rw [nI_1]
        refine jr_istore_1 dX9_goesOn_49 (by decide) rfl ?_
        refine jr_aload_n dX9_goesOn_50 rfl ?_
        refine gfX9_7 79 dX9_goesOn_51 (hw1.k rfl) (hw1.f rfl) ?_
        refine jr_iconst (4) dX9_goesOn_54 (by decide) ?_
        refine jr_dup2 dX9_goesOn_55 rfl rfl ?_
        refine jr_iald 4 (hw1.k rfl) rfl (by decide) dX9_goesOn_56 ?_
        refine jr_iload_n dX9_goesOn_57 rfl ?_
        refine jr_if_eq 65 dX9_goesOn_58 (by decide) (fun c_58 => ?_) (fun c_58 => absurd (by decide) c_58)
        refine jr_iconst (1) dX9_goesOn_65 (by decide) ?_
        refine jr_iadd dX9_goesOn_66 ?_
        refine jr_iast 4 (hw1.k rfl) rfl (by decide) dX9_goesOn_67 ?_
        refine jr_iinc_2 (nI m) dX9_goesOn_68 (pk_m1 m) (by decide) rfl ?_
        refine jr_goto 11 dX9_goesOn_71 (by decide) ?_
        rw [← ht]
        refine ih (i + 1) _ _ (by omega) ((hS.tr (Sm.sR (Or.inl rfl))).tr (Sm.sR (Or.inl rfl))) ?_
        simp only [wI_sR_s, hr]
        first | exact hrR_s (v := 1) (by rw [ht, show i + 1 - tkF (s 6) (s 9) i = (i - tkF (s 6) (s 9) i) + 1 by omega, ← nI_1, Int32.add_assoc]) | exact hrR_s (v := 0) (by rw [ht, Int32.add_zero, show i + 1 - (tkF (s 6) (s 9) i + 1) = (i - tkF (s 6) (s 9) i) by omega])
      · rw [wI_sR_s, hr] at c_29
        have ht := tk_1 c_29
        refine jr_iconst (1) dX9_goesOn_32 (by decide) ?_
        refine jr_goto 37 dX9_goesOn_33 (by decide) ?_
        refine jr_istore_3 dX9_goesOn_37 (by decide) rfl ?_
        refine jr_iload_n dX9_goesOn_38 rfl ?_
        refine jr_iload_n dX9_goesOn_39 rfl ?_
        refine jr_if_eq 47 dX9_goesOn_40 (by decide) (fun c_40 => absurd c_40 (by decide)) (fun c_40 => ?_)
        refine jr_iconst (1) dX9_goesOn_43 (by decide) ?_
        refine jr_goto 48 dX9_goesOn_44 (by decide) ?_
        refine jr_iadd dX9_goesOn_48 ?_
        first | rw [Int32.add_zero] | rw [nI_1]
        refine jr_istore_1 dX9_goesOn_49 (by decide) rfl ?_
        refine jr_aload_n dX9_goesOn_50 rfl ?_
        refine gfX9_7 79 dX9_goesOn_51 (hw1.k rfl) (hw1.f rfl) ?_
        refine jr_iconst (4) dX9_goesOn_54 (by decide) ?_
        refine jr_dup2 dX9_goesOn_55 rfl rfl ?_
        refine jr_iald 4 (hw1.k rfl) rfl (by decide) dX9_goesOn_56 ?_
        refine jr_iload_n dX9_goesOn_57 rfl ?_
        refine jr_if_eq 65 dX9_goesOn_58 (by decide) (fun c_58 => absurd c_58 (by decide)) (fun c_58 => ?_)
        refine jr_iconst (0) dX9_goesOn_61 (by decide) ?_
        refine jr_goto 66 dX9_goesOn_62 (by decide) ?_
        refine jr_iadd dX9_goesOn_66 ?_
        refine jr_iast 4 (hw1.k rfl) rfl (by decide) dX9_goesOn_67 ?_
        refine jr_iinc_2 (nI m) dX9_goesOn_68 (pk_m1 m) (by decide) rfl ?_
        refine jr_goto 11 dX9_goesOn_71 (by decide) ?_
        rw [← ht]
        refine ih (i + 1) _ _ (by omega) ((hS.tr (Sm.sR (Or.inl rfl))).tr (Sm.sR (Or.inl rfl))) ?_
        simp only [wI_sR_s, hr]
        first | exact hrR_s (v := 1) (by rw [ht, show i + 1 - tkF (s 6) (s 9) i = (i - tkF (s 6) (s 9) i) + 1 by omega, ← nI_1, Int32.add_assoc]) | exact hrR_s (v := 0) (by rw [ht, Int32.add_zero, show i + 1 - (tkF (s 6) (s 9) i + 1) = (i - tkF (s 6) (s 9) i) by omega])
  refine jr_iconst (0) dX9_goesOn_0 (by decide) ?_
  refine jr_istore_1 dX9_goesOn_1 (by decide) rfl ?_
  refine jr_aload_n dX9_goesOn_2 rfl ?_
  refine jr_aload_n dX9_goesOn_3 rfl ?_
  refine jc_Vi (c_mtimeNow g _ hw (sN s 2) (by have := hmi.2; omega) (by rw [hs]; exact hmi.1)) lkX9_111 (hw.k rfl) rfl rfl (Nat.le_of_ble_eq_true rfl) (Nat.le_of_ble_eq_true rfl) dX9_goesOn_4 (fun r_4 w_4 h_4 => ?_)
  obtain ⟨rfl, rfl⟩ := h_4
  refine jc_Vi (c_mtotalAt g _ hw s hs hG (sN s 2 % 720) (by omega)) lkX9_134 (hw.k rfl) rfl rfl (Nat.le_of_ble_eq_true rfl) (Nat.le_of_ble_eq_true rfl) dX9_goesOn_7 (fun r_7 w_7 h_7 => ?_)
  obtain ⟨rfl, hS⟩ := h_7
  rw [← hN]
  refine jr_istore_2 dX9_goesOn_10 (by decide) rfl ?_
  exact L1 N 0 _ none (by omega) (hS.mono (fun _ h => scM_S h)) (by rw [hrR_0, hS.row (scM_n (by decide)), hs])
def goM (s : Nat → Int32) : Nat → Nat → Int32
  | 0 => s
  | n + 1 => goF (goM s n)
