-- the reference: the next token
/-- where a run of p from b ends, at most f on -/
def runE (p : Nat → Bool) : Nat → Nat → Nat
  | 0, b => b
  | f + 1, b => if p b = true then runE p f (b + 1) else b
theorem runE_le (p : Nat → Bool) : ∀ f b, b ≤ runE p f b ∧ runE p f b ≤ b + f
  | 0, b => ⟨Nat.le_refl _, Nat.le_refl _⟩
  | f + 1, b => by
    simp only [runE]
    have ih := runE_le p f (b + 1)
    by_cases h : p b = true
    · rw [if_pos h]; omega
    · rw [if_neg h]; omega
theorem runE_t {p : Nat → Bool} {f b : Nat} (h : p b = true) : runE p (f + 1) b = runE p f (b + 1) := by simp only [runE]; rw [if_pos h]
theorem runE_f {p : Nat → Bool} {f b : Nat} (h : ¬ p b = true) : runE p f b = b := by
  cases f with
  | zero => rfl
  | succ f => simp only [runE]; rw [if_neg h]
def spB (T : Nat → Int32) (n b : Nat) : Bool := decide (b < n ∧ T b = 32)
def ltB (T : Nat → Int32) (n b : Nat) : Bool := decide (tpL T n b)
def dgB (T : Nat → Int32) (n b : Nat) : Bool := decide (tpD T n b)
def numF (T : Nat → Int32) (bg : Nat) : Nat → Int32
  | 0 => 0
  | k + 1 => if k < 4 then 10 * numF T bg k + T (bg + k) - 48 else numF T bg k
/-- the reader's token: its kind, number, letter, begin and end -/
abbrev Tok : Type := Nat × Nat × Int32 × Int32 × Int32
def TkR (f : Nat → Int32) (k : Tok) : Prop := f 16 = nI k.1 ∧ f 17 = nI k.2.1 ∧ f 18 = k.2.2.1 ∧ f 19 = k.2.2.2.1 ∧ f 20 = k.2.2.2.2
def TkO (f f' : Nat → Int32) : Prop := ∀ j, j < 16 ∨ 20 < j → f' j = f j
theorem TkO.rf {f : Nat → Int32} : TkO f f := fun _ _ => rfl
theorem TkO.up {f f' : Nat → Int32} {k : Nat} {v : Int32} (h : TkO f f') (hk : 16 ≤ k ∧ k ≤ 20) : TkO f (upd f' k v) := fun j hj => by rw [pk_un (by omega), h j hj]
def tokF (T : Nat → Int32) (n : Nat) (k : Tok) : Tok :=
  if runE (spB T n) (n - k.2.1) k.2.1 = n then (n, n, 0, k.2.2.2.1, k.2.2.2.2)
  else if tpL T n (runE (spB T n) (n - k.2.1) k.2.1) then
    (runE (spB T n) (n - k.2.1) k.2.1, runE (ltB T n) (n - runE (spB T n) (n - k.2.1) k.2.1) (runE (spB T n) (n - k.2.1) k.2.1),
     (if (0 < k.2.1 ∧ (k.2.2.1 = 1 ∨ k.2.2.1 = 2)) ∧ k.2.1 = runE (spB T n) (n - k.2.1) k.2.1 then 4 else 1), k.2.2.2.1,
     (if runE (ltB T n) (n - runE (spB T n) (n - k.2.1) k.2.1) (runE (spB T n) (n - k.2.1) k.2.1) - runE (spB T n) (n - k.2.1) k.2.1 = 1 then T (runE (spB T n) (n - k.2.1) k.2.1) else 0))
  else if tpD T n (runE (spB T n) (n - k.2.1) k.2.1) then
    (runE (spB T n) (n - k.2.1) k.2.1, runE (dgB T n) (n - runE (spB T n) (n - k.2.1) k.2.1) (runE (spB T n) (n - k.2.1) k.2.1),
     (if ((0 < k.2.1 ∧ (k.2.2.1 = 1 ∨ k.2.2.1 = 2)) ∧ k.2.1 = runE (spB T n) (n - k.2.1) k.2.1) ∨ 4 < runE (dgB T n) (n - runE (spB T n) (n - k.2.1) k.2.1) (runE (spB T n) (n - k.2.1) k.2.1) - runE (spB T n) (n - k.2.1) k.2.1 then 4 else 2),
     numF T (runE (spB T n) (n - k.2.1) k.2.1) (runE (dgB T n) (n - runE (spB T n) (n - k.2.1) k.2.1) (runE (spB T n) (n - k.2.1) k.2.1) - runE (spB T n) (n - k.2.1) k.2.1), k.2.2.2.2)
  else (runE (spB T n) (n - k.2.1) k.2.1, runE (spB T n) (n - k.2.1) k.2.1 + 1, 3, k.2.2.2.1, T (runE (spB T n) (n - k.2.1) k.2.1))
theorem c_nextToken (g : Cx) (w : Wd) (hw : Wf w) (T : Nat → Int32) (hT : wI w 92 = T) (n : Nat) (hn : n ≤ 96) (h15 : wI w 78 15 = nI n) (k : Tok) (hk : TkR (wI w 78) k) (hb : k.2.1 ≤ n) : CV g yX9_nextToken cX9_nextToken 3 3 0 0 [.ref (gb g + 78)] w (fun w' => ∃ f, w' = sR w 78 f ∧ TkR f (tokF T n k) ∧ TkO (wI w 78) f) := by
  obtain ⟨a0, b0, tk, nu, le⟩ := k
  obtain ⟨k16, k17, k18, k19, k20⟩ := hk
  simp only at k16 k17 k18 k19 k20 hb
  have eb0 : (nI b0).toInt = (b0 : Int) := i_nI (by omega)
  have hO15 : ∀ f, TkO (wI w 78) f → f 15 = nI n := fun f h => (h 15 (by omega)).trans h15
  refine CV.of (own := RX9) (nm := "nextToken") (lv := [some (.ref (gb g + 78)), none, none]) (by decide) rfl rfl (Nat.le_of_ble_eq_true rfl) rfl (fun Q hQ => ?_)
  obtain ⟨bg, ebg⟩ : ∃ bg, bg = runE (spB T n) (n - b0) b0 := ⟨_, rfl⟩
  have hbg := runE_le (spB T n) (n - b0) b0
  rw [← ebg] at hbg
  have L : ∀ (x : Int32), (∀ f, TkR f (a0, bg, tk, nu, le) → TkO (wI w 78) f → RR g RX9 cX9_nextToken 3 none "nextToken" 3 0 0 0 0 72 [some (.ref (gb g + 78)), some (.int x), some (.int (nI b0))] [] (sR w 78 f) Q) → ∀ (m b : Nat) (f : Nat → Int32), m + b = n → bg = runE (spB T n) m b → TkR f (a0, b, tk, nu, le) → TkO (wI w 78) f → RR g RX9 cX9_nextToken 3 none "nextToken" 3 0 0 0 0 34 [some (.ref (gb g + 78)), some (.int x), some (.int (nI b0))] [] (sR w 78 f) Q := by
    intro x hx m
    induction m with
    | zero =>
      intro b f hm he hf hO
      have hf2 : f 17 = nI b := hf.2.1
      have e1 : b = bg := he.symm
      subst e1
      have h9 := hx f hf hO
      refine jr_aload_n dX9_nextToken_34 rfl ?_
      refine gfX9_203 dX9_nextToken_35 (hw.k rfl) ?_
      rw [wI_sR_s, hf2]
      refine jr_aload_n dX9_nextToken_38 rfl ?_
      refine gfX9_191 dX9_nextToken_39 (hw.k rfl) ?_
      rw [wI_sR_s, hO15 f hO]
      refine jr_icmp_ge 72 dX9_nextToken_42 (by decide) (fun c_42 => ?_) (fun c_42 => absurd (nI_le (by omega) (by omega)) c_42)
      exact h9
    | succ m ih =>
      intro b f hm he hf hO
      have hf2 : f 17 = nI b := hf.2.1
      have h9 := hx f
      refine jr_aload_n dX9_nextToken_34 rfl ?_
      refine gfX9_203 dX9_nextToken_35 (hw.k rfl) ?_
      rw [wI_sR_s, hf2]
      refine jr_aload_n dX9_nextToken_38 rfl ?_
      refine gfX9_191 dX9_nextToken_39 (hw.k rfl) ?_
      rw [wI_sR_s, hO15 f hO]
      refine jr_icmp_ge 72 dX9_nextToken_42 (by decide) (fun c_42 => absurd c_42 (nI_ge (by omega) (by omega))) (fun c_42 => ?_)
      refine jr_aload_n dX9_nextToken_45 rfl ?_
      refine gfX9_49 92 dX9_nextToken_46 (hw.k rfl) (hw.f rfl) ?_
      refine jr_aload_n dX9_nextToken_49 rfl ?_
      refine gfX9_203 dX9_nextToken_50 (hw.k rfl) ?_
      rw [wI_sR_s, hf2]
      refine jr_iald b (hw.k rfl) rfl ⟨by omega, by decide⟩ dX9_nextToken_53 ?_
      rw [wI_sR_n _ (by decide), hT]
      refine jr_bipush (32) dX9_nextToken_54 (by decide) ?_
      refine jr_icmp_ne 72 dX9_nextToken_56 (by decide) (fun c_56 => ?_) (fun c_56 => ?_)
      · have e1 : bg = b := he.trans (runE_f (fun e => c_56 (of_decide_eq_true e).2))
        exact h9 (by rw [e1]; exact hf) hO
      · refine jr_aload_n dX9_nextToken_59 rfl ?_
        refine jr_dup dX9_nextToken_60 rfl ?_
        refine gfX9_203 dX9_nextToken_61 (hw.k rfl) ?_
        rw [wI_sR_s, hf2]
        refine jr_iconst (1) dX9_nextToken_64 (by decide) ?_
        refine jr_iadd dX9_nextToken_65 ?_
        refine pfX9_203 dX9_nextToken_66 (hw.k rfl) ?_
        refine jr_goto 34 dX9_nextToken_69 (by decide) ?_
        rw [sR_sR, wI_sR_s, jlit 1, nI_add]
        refine ih (b + 1) _ (by omega) (he.trans (runE_t (decide_eq_true ⟨by omega, c_56⟩))) ⟨?_, ?_, ?_, ?_, ?_⟩ (hO.up (by omega))
        · rw [pk_un (by decide)]; exact hf.1
        · rw [pk_us]
        · rw [pk_un (by decide)]; exact hf.2.2.1
        · rw [pk_un (by decide)]; exact hf.2.2.2.1
        · rw [pk_un (by decide)]; exact hf.2.2.2.2
  obtain ⟨eL, heL⟩ : ∃ eL, eL = runE (ltB T n) (n - bg) bg := ⟨_, rfl⟩
  obtain ⟨eD, heD⟩ : ∃ eD, eD = runE (dgB T n) (n - bg) bg := ⟨_, rfl⟩
  have hLl := runE_le (ltB T n) (n - bg) bg
  have hDl := runE_le (dgB T n) (n - bg) bg
  rw [← heL] at hLl
  rw [← heD] at hDl
  have eT : tokF T n (a0, b0, tk, nu, le) = if bg = n then (n, n, 0, nu, le) else if tpL T n bg then (bg, eL, (if (0 < b0 ∧ (tk = 1 ∨ tk = 2)) ∧ b0 = bg then 4 else 1), nu, (if eL - bg = 1 then T bg else 0)) else if tpD T n bg then (bg, eD, (if ((0 < b0 ∧ (tk = 1 ∨ tk = 2)) ∧ b0 = bg) ∨ 4 < eD - bg then 4 else 2), numF T bg (eD - bg), le) else (bg, bg + 1, 3, nu, T bg) := by
    rw [heL, heD, ebg, tokF]
  have fin : ∀ f' (k' : Tok), tokF T n (a0, b0, tk, nu, le) = k' → TkR f' k' → TkO (wI w 78) f' → Q none (sR w 78 f') := fun f' k' e1 e2 e3 => hQ _ ⟨f', rfl, by rw [e1]; exact e2, e3⟩
  have L128 : ∀ (y : Int32), (∀ f, TkR f (bg, eL, tk, nu, le) → TkO (wI w 78) f → RR g RX9 cX9_nextToken 3 none "nextToken" 3 0 0 0 0 152 [some (.ref (gb g + 78)), some (.int y), some (.int (nI b0))] [] (sR w 78 f) Q) → ∀ (m b : Nat) (f : Nat → Int32), m + b = n → eL = runE (ltB T n) m b → TkR f (bg, b, tk, nu, le) → TkO (wI w 78) f → RR g RX9 cX9_nextToken 3 none "nextToken" 3 0 0 0 0 128 [some (.ref (gb g + 78)), some (.int y), some (.int (nI b0))] [] (sR w 78 f) Q := by
    intro y hy m
    induction m with
    | zero =>
      intro b f hm he hf hO
      have hf2 : f 17 = nI b := hf.2.1
      have e1 : b = eL := he.symm
      subst e1
      have h9 := hy f hf hO
      refine jr_aload_n dX9_nextToken_128 rfl ?_
      refine jr_aload_n dX9_nextToken_129 rfl ?_
      refine gfX9_203 dX9_nextToken_130 (hw.k rfl) ?_
      rw [wI_sR_s, hf2]
      refine jc_Vi (c_isLetter g _ (by exact hw) T (by rw [wI_sR_n _ (by decide)]; exact hT) n hn (by rw [wI_sR_s]; exact hO15 f hO) b (by omega)) lkX9_212 (hw.k rfl) rfl rfl (Nat.le_of_ble_eq_true rfl) (Nat.le_of_ble_eq_true rfl) dX9_nextToken_133 (fun r_133 w_133 h_133 => ?_)
      obtain ⟨rfl, rfl⟩ := h_133
      refine jr_if_eq 152 dX9_nextToken_136 (by decide) (fun c_136 => ?_) (fun c_136 => absurd (jb_f (fun e => by unfold tpL at e; omega)) c_136)
      exact h9
    | succ m ih =>
      intro b f hm he hf hO
      have hf2 : f 17 = nI b := hf.2.1
      have h9 := hy f
      by_cases hc : tpL T n b
      · refine jr_aload_n dX9_nextToken_128 rfl ?_
        refine jr_aload_n dX9_nextToken_129 rfl ?_
        refine gfX9_203 dX9_nextToken_130 (hw.k rfl) ?_
        rw [wI_sR_s, hf2]
        refine jc_Vi (c_isLetter g _ (by exact hw) T (by rw [wI_sR_n _ (by decide)]; exact hT) n hn (by rw [wI_sR_s]; exact hO15 f hO) b (by omega)) lkX9_212 (hw.k rfl) rfl rfl (Nat.le_of_ble_eq_true rfl) (Nat.le_of_ble_eq_true rfl) dX9_nextToken_133 (fun r_133 w_133 h_133 => ?_)
        obtain ⟨rfl, rfl⟩ := h_133
        refine jr_if_eq 152 dX9_nextToken_136 (by decide) (fun c_136 => absurd c_136 (jb_1.mpr hc)) (fun c_136 => ?_)
        refine jr_aload_n dX9_nextToken_139 rfl ?_
        refine jr_dup dX9_nextToken_140 rfl ?_
        refine gfX9_203 dX9_nextToken_141 (hw.k rfl) ?_
        rw [wI_sR_s, hf2]
        refine jr_iconst (1) dX9_nextToken_144 (by decide) ?_
        refine jr_iadd dX9_nextToken_145 ?_
        refine pfX9_203 dX9_nextToken_146 (hw.k rfl) ?_
        refine jr_goto 128 dX9_nextToken_149 (by decide) ?_
        rw [sR_sR, wI_sR_s, jlit 1, nI_add]
        refine ih (b + 1) _ (by omega) (he.trans (runE_t (decide_eq_true hc))) ⟨?_, ?_, ?_, ?_, ?_⟩ (hO.up (by omega))
        · rw [pk_un (by decide)]; exact hf.1
        · rw [pk_us]
        · rw [pk_un (by decide)]; exact hf.2.2.1
        · rw [pk_un (by decide)]; exact hf.2.2.2.1
        · rw [pk_un (by decide)]; exact hf.2.2.2.2
      · refine jr_aload_n dX9_nextToken_128 rfl ?_
        refine jr_aload_n dX9_nextToken_129 rfl ?_
        refine gfX9_203 dX9_nextToken_130 (hw.k rfl) ?_
        rw [wI_sR_s, hf2]
        refine jc_Vi (c_isLetter g _ (by exact hw) T (by rw [wI_sR_n _ (by decide)]; exact hT) n hn (by rw [wI_sR_s]; exact hO15 f hO) b (by omega)) lkX9_212 (hw.k rfl) rfl rfl (Nat.le_of_ble_eq_true rfl) (Nat.le_of_ble_eq_true rfl) dX9_nextToken_133 (fun r_133 w_133 h_133 => ?_)
        obtain ⟨rfl, rfl⟩ := h_133
        refine jr_if_eq 152 dX9_nextToken_136 (by decide) (fun c_136 => ?_) (fun c_136 => absurd (jb_f hc) c_136)
        have e1 : eL = b := he.trans (runE_f (fun e => hc (of_decide_eq_true e)))
        exact h9 (by rw [e1]; exact hf) hO
  have L214 : ∀ (y : Int32), (∀ f, TkR f (bg, eD, tk, numF T bg (eD - bg), le) → TkO (wI w 78) f → RR g RX9 cX9_nextToken 3 none "nextToken" 3 0 0 0 0 282 [some (.ref (gb g + 78)), some (.int y), some (.int (nI b0))] [] (sR w 78 f) Q) → ∀ (m b : Nat) (f : Nat → Int32), m + b = n → bg ≤ b → eD = runE (dgB T n) m b → TkR f (bg, b, tk, numF T bg (b - bg), le) → TkO (wI w 78) f → RR g RX9 cX9_nextToken 3 none "nextToken" 3 0 0 0 0 214 [some (.ref (gb g + 78)), some (.int y), some (.int (nI b0))] [] (sR w 78 f) Q := by
    intro y hy m
    induction m with
    | zero =>
      intro b f hm hbb he hf hO
      have hf2 : f 17 = nI b := hf.2.1
      have e1 : b = eD := he.symm
      subst e1
      have h9 := hy f hf hO
      refine jr_aload_n dX9_nextToken_214 rfl ?_
      refine jr_aload_n dX9_nextToken_215 rfl ?_
      refine gfX9_203 dX9_nextToken_216 (hw.k rfl) ?_
      rw [wI_sR_s, hf2]
      refine jc_Vi (c_isDigit g _ (by exact hw) T (by rw [wI_sR_n _ (by decide)]; exact hT) n hn (by rw [wI_sR_s]; exact hO15 f hO) b (by omega)) lkX9_218 (hw.k rfl) rfl rfl (Nat.le_of_ble_eq_true rfl) (Nat.le_of_ble_eq_true rfl) dX9_nextToken_219 (fun r_219 w_219 h_219 => ?_)
      obtain ⟨rfl, rfl⟩ := h_219
      refine jr_if_eq 282 dX9_nextToken_222 (by decide) (fun c_222 => ?_) (fun c_222 => absurd (jb_f (fun e => by unfold tpD at e; omega)) c_222)
      exact h9
    | succ m ih =>
      intro b f hm hbb he hf hO
      have hf1 : f 16 = nI bg := hf.1
      have hf2 : f 17 = nI b := hf.2.1
      have hf4 : f 19 = numF T bg (b - bg) := hf.2.2.2.1
      have h9 := hy f
      have es : (nI (b - bg)).toInt = ((b - bg : Nat) : Int) := i_nI (by omega)
      have eN : numF T bg (b + 1 - bg) = if b - bg < 4 then 10 * numF T bg (b - bg) + T b - 48 else numF T bg (b - bg) := by
        rw [show b + 1 - bg = (b - bg) + 1 by omega]
        simp only [numF]
        rw [show bg + (b - bg) = b by omega]
      by_cases hc : tpD T n b
      · have h8 : ∀ v, v = numF T bg (b + 1 - bg) → RR g RX9 cX9_nextToken 3 none "nextToken" 3 0 0 0 0 214 [some (.ref (gb g + 78)), some (.int y), some (.int (nI b0))] [] (sR w 78 (upd (upd f 19 v) 17 (nI (b + 1)))) Q := by
          intro v ev
          refine ih (b + 1) _ (by omega) (by omega) (he.trans (runE_t (decide_eq_true hc))) ⟨?_, ?_, ?_, ?_, ?_⟩ ((hO.up (by omega)).up (by omega))
          · rw [pk_un (by decide), pk_un (by decide)]; exact hf.1
          · rw [pk_us]
          · rw [pk_un (by decide), pk_un (by decide)]; exact hf.2.2.1
          · rw [pk_un (by decide), pk_us, ev]
          · rw [pk_un (by decide), pk_un (by decide)]; exact hf.2.2.2.2
        refine jr_aload_n dX9_nextToken_214 rfl ?_
        refine jr_aload_n dX9_nextToken_215 rfl ?_
        refine gfX9_203 dX9_nextToken_216 (hw.k rfl) ?_
        rw [wI_sR_s, hf2]
        refine jc_Vi (c_isDigit g _ (by exact hw) T (by rw [wI_sR_n _ (by decide)]; exact hT) n hn (by rw [wI_sR_s]; exact hO15 f hO) b (by omega)) lkX9_218 (hw.k rfl) rfl rfl (Nat.le_of_ble_eq_true rfl) (Nat.le_of_ble_eq_true rfl) dX9_nextToken_219 (fun r_219 w_219 h_219 => ?_)
        obtain ⟨rfl, rfl⟩ := h_219
        refine jr_if_eq 282 dX9_nextToken_222 (by decide) (fun c_222 => absurd c_222 (jb_1.mpr hc)) (fun c_222 => ?_)
        refine jr_aload_n dX9_nextToken_225 rfl ?_
        refine jr_aload_n dX9_nextToken_226 rfl ?_
        refine gfX9_203 dX9_nextToken_227 (hw.k rfl) ?_
        rw [wI_sR_s, hf2]
        refine jr_aload_n dX9_nextToken_230 rfl ?_
        refine gfX9_209 dX9_nextToken_231 (hw.k rfl) ?_
        rw [wI_sR_s, hf1]
        refine jr_isub dX9_nextToken_234 ?_
        rw [pk_sub hbb]
        refine jr_iconst (4) dX9_nextToken_235 (by decide) ?_
        refine jr_icmp_ge 262 dX9_nextToken_236 (by decide) (fun c_236 => ?_) (fun c_236 => ?_)
        · simp only [lt_i, le_i, eq_i, Int32.reduceToInt] at c_236
          refine jr_aload_n dX9_nextToken_262 rfl ?_
          refine gfX9_221 dX9_nextToken_263 (hw.k rfl) ?_
          rw [wI_sR_s, hf4]
          refine pfX9_221 dX9_nextToken_266 (hw.k rfl) ?_
          rw [sR_sR, wI_sR_s]
          refine jr_aload_n dX9_nextToken_269 rfl ?_
          refine jr_dup dX9_nextToken_270 rfl ?_
          refine gfX9_203 dX9_nextToken_271 (hw.k rfl) ?_
          rw [wI_sR_s, pk_un (by decide), hf2]
          refine jr_iconst (1) dX9_nextToken_274 (by decide) ?_
          refine jr_iadd dX9_nextToken_275 ?_
          refine pfX9_203 dX9_nextToken_276 (hw.k rfl) ?_
          refine jr_goto 214 dX9_nextToken_279 (by decide) ?_
          rw [sR_sR, wI_sR_s, jlit 1, nI_add]
          refine h8 _ ?_
          first | rw [eN, if_pos (by omega)] | rw [eN, if_neg (by omega)]
        · simp only [lt_i, le_i, eq_i, Int32.reduceToInt] at c_236
          refine jr_bipush (10) dX9_nextToken_239 (by decide) ?_
          refine jr_aload_n dX9_nextToken_241 rfl ?_
          refine gfX9_221 dX9_nextToken_242 (hw.k rfl) ?_
          rw [wI_sR_s, hf4]
          refine jr_imul dX9_nextToken_245 ?_
          refine jr_aload_n dX9_nextToken_246 rfl ?_
          refine gfX9_49 92 dX9_nextToken_247 (hw.k rfl) (hw.f rfl) ?_
          refine jr_aload_n dX9_nextToken_250 rfl ?_
          refine gfX9_203 dX9_nextToken_251 (hw.k rfl) ?_
          rw [wI_sR_s, hf2]
          refine jr_iald b (hw.k rfl) rfl ⟨by unfold tpD at hc; omega, by decide⟩ dX9_nextToken_254 ?_
          rw [wI_sR_n _ (by decide), hT]
          refine jr_iadd dX9_nextToken_255 ?_
          refine jr_bipush (48) dX9_nextToken_256 (by decide) ?_
          refine jr_isub dX9_nextToken_258 ?_
          refine jr_goto 266 dX9_nextToken_259 (by decide) ?_
          refine pfX9_221 dX9_nextToken_266 (hw.k rfl) ?_
          rw [sR_sR, wI_sR_s]
          refine jr_aload_n dX9_nextToken_269 rfl ?_
          refine jr_dup dX9_nextToken_270 rfl ?_
          refine gfX9_203 dX9_nextToken_271 (hw.k rfl) ?_
          rw [wI_sR_s, pk_un (by decide), hf2]
          refine jr_iconst (1) dX9_nextToken_274 (by decide) ?_
          refine jr_iadd dX9_nextToken_275 ?_
          refine pfX9_203 dX9_nextToken_276 (hw.k rfl) ?_
          refine jr_goto 214 dX9_nextToken_279 (by decide) ?_
          rw [sR_sR, wI_sR_s, jlit 1, nI_add]
          refine h8 _ ?_
          first | rw [eN, if_pos (by omega)] | rw [eN, if_neg (by omega)]
      · refine jr_aload_n dX9_nextToken_214 rfl ?_
        refine jr_aload_n dX9_nextToken_215 rfl ?_
        refine gfX9_203 dX9_nextToken_216 (hw.k rfl) ?_
        rw [wI_sR_s, hf2]
        refine jc_Vi (c_isDigit g _ (by exact hw) T (by rw [wI_sR_n _ (by decide)]; exact hT) n hn (by rw [wI_sR_s]; exact hO15 f hO) b (by omega)) lkX9_218 (hw.k rfl) rfl rfl (Nat.le_of_ble_eq_true rfl) (Nat.le_of_ble_eq_true rfl) dX9_nextToken_219 (fun r_219 w_219 h_219 => ?_)
        obtain ⟨rfl, rfl⟩ := h_219
        refine jr_if_eq 282 dX9_nextToken_222 (by decide) (fun c_222 => ?_) (fun c_222 => absurd (jb_f hc) c_222)
        have e1 : eD = b := he.trans (runE_f (fun e => hc (of_decide_eq_true e)))
        exact h9 (by rw [e1]; exact hf) hO
  have K90 : ∀ f, TkR f (a0, bg, tk, nu, le) → TkO (wI w 78) f → RR g RX9 cX9_nextToken 3 none "nextToken" 3 0 0 0 0 90 [some (.ref (gb g + 78)), some (.int (jb ((0 < b0 ∧ (tk = 1 ∨ tk = 2)) ∧ b0 = bg))), some (.int (nI b0))] [] (sR w 78 f) Q := by
    intro f hf hO
    have hf2 : f 17 = nI bg := hf.2.1
    have hfu : TkR (upd f 16 (nI bg)) (bg, bg, tk, nu, le) := ⟨pk_us, by rw [pk_un (by decide)]; exact hf.2.1, by rw [pk_un (by decide)]; exact hf.2.2.1, by rw [pk_un (by decide)]; exact hf.2.2.2.1, by rw [pk_un (by decide)]; exact hf.2.2.2.2⟩
    have hOu : TkO (wI w 78) (upd f 16 (nI bg)) := hO.up (by omega)
    by_cases hne : bg = n
    · rw [if_pos hne] at eT
      refine jr_aload_n dX9_nextToken_90 rfl ?_
      refine jr_aload_n dX9_nextToken_91 rfl ?_
      refine gfX9_203 dX9_nextToken_92 (hw.k rfl) ?_
      rw [wI_sR_s, hf2]
      refine pfX9_209 dX9_nextToken_95 (hw.k rfl) ?_
      rw [sR_sR, wI_sR_s]
      refine jr_aload_n dX9_nextToken_98 rfl ?_
      refine gfX9_209 dX9_nextToken_99 (hw.k rfl) ?_
      rw [wI_sR_s, pk_us]
      refine jr_aload_n dX9_nextToken_102 rfl ?_
      refine gfX9_191 dX9_nextToken_103 (hw.k rfl) ?_
      rw [wI_sR_s, pk_un (by decide), hO15 f hO]
      refine jr_icmp_ne 117 dX9_nextToken_106 (by decide) (fun c_106 => absurd (by rw [hne]) c_106) (fun c_106 => ?_)
      refine jr_aload_n dX9_nextToken_109 rfl ?_
      refine jr_iconst (0) dX9_nextToken_110 (by decide) ?_
      refine pfX9_206 dX9_nextToken_111 (hw.k rfl) ?_
      rw [sR_sR, wI_sR_s]
      refine jr_goto 339 dX9_nextToken_114 (by decide) ?_
      refine jr_vret rfl dX9_nextToken_339 ?_
      refine fin _ _ eT ⟨?_, ?_, ?_, ?_, ?_⟩ (hOu.up (by omega))
      · rw [pk_un (by decide), pk_us, hne]
      · rw [pk_un (by decide), pk_un (by decide), hf2, hne]
      · rw [pk_us]
      · rw [pk_un (by decide), pk_un (by decide)]; exact hf.2.2.2.1
      · rw [pk_un (by decide), pk_un (by decide)]; exact hf.2.2.2.2
    · rw [if_neg hne] at eT
      have hnn : nI bg ≠ nI n := fun e => by rw [eq_i, i_nI (by omega), i_nI (by omega)] at e; omega
      by_cases hc : tpL T n bg
      · rw [if_pos hc] at eT
        have es : (nI (eL - bg)).toInt = ((eL - bg : Nat) : Int) := i_nI (by omega)
        have K152 : ∀ f1, TkR f1 (bg, eL, tk, nu, le) → TkO (wI w 78) f1 → RR g RX9 cX9_nextToken 3 none "nextToken" 3 0 0 0 0 152 [some (.ref (gb g + 78)), some (.int (jb ((0 < b0 ∧ (tk = 1 ∨ tk = 2)) ∧ b0 = bg))), some (.int (nI b0))] [] (sR w 78 f1) Q := by
          intro f1 hg hO1
          have hg1 : f1 16 = nI bg := hg.1
          have hg2 : f1 17 = nI eL := hg.2.1
          refine jr_aload_n dX9_nextToken_152 rfl ?_
          refine jr_iload_n dX9_nextToken_153 rfl ?_
          refine jr_if_eq 161 dX9_nextToken_154 (by decide) (fun c_154 => ?_) (fun c_154 => ?_)
          · refine jr_iconst (1) dX9_nextToken_161 (by decide) ?_
            refine pfX9_206 dX9_nextToken_162 (hw.k rfl) ?_
            rw [sR_sR, wI_sR_s]
            refine jr_aload_n dX9_nextToken_165 rfl ?_
            refine jr_aload_n dX9_nextToken_166 rfl ?_
            refine gfX9_203 dX9_nextToken_167 (hw.k rfl) ?_
            rw [wI_sR_s, pk_un (by decide), hg2]
            refine jr_aload_n dX9_nextToken_170 rfl ?_
            refine gfX9_209 dX9_nextToken_171 (hw.k rfl) ?_
            rw [wI_sR_s, pk_un (by decide), hg1]
            refine jr_isub dX9_nextToken_174 ?_
            rw [pk_sub (by omega)]
            refine jr_iconst (1) dX9_nextToken_175 (by decide) ?_
            refine jr_icmp_ne 191 dX9_nextToken_176 (by decide) (fun c_176 => ?_) (fun c_176 => ?_)
            · simp only [lt_i, le_i, eq_i, Int32.reduceToInt] at c_176
              refine jr_iconst (0) dX9_nextToken_191 (by decide) ?_
              refine pfX9_215 dX9_nextToken_192 (hw.k rfl) ?_
              rw [sR_sR, wI_sR_s]
              refine jr_goto 339 dX9_nextToken_195 (by decide) ?_
              refine jr_vret rfl dX9_nextToken_339 ?_
              refine fin _ _ eT ⟨?_, ?_, ?_, ?_, ?_⟩ ((hO1.up (by omega)).up (by omega))
              · rw [pk_un (by decide), pk_un (by decide)]; exact hg.1
              · rw [pk_un (by decide), pk_un (by decide)]; exact hg.2.1
              · rw [pk_un (by decide), pk_us]; first | exact (if_neg (jb_0.mp c_154)).symm | exact (if_pos (jb_1.mp c_154)).symm
              · rw [pk_un (by decide), pk_un (by decide)]; exact hg.2.2.2.1
              · rw [pk_us]; first | exact (if_pos (by omega)).symm | exact (if_neg (by omega)).symm
            · simp only [lt_i, le_i, eq_i, Int32.reduceToInt] at c_176
              refine jr_aload_n dX9_nextToken_179 rfl ?_
              refine gfX9_49 92 dX9_nextToken_180 (hw.k rfl) (hw.f rfl) ?_
              refine jr_aload_n dX9_nextToken_183 rfl ?_
              refine gfX9_209 dX9_nextToken_184 (hw.k rfl) ?_
              rw [wI_sR_s, pk_un (by decide), hg1]
              refine jr_iald bg (hw.k rfl) rfl ⟨by omega, by decide⟩ dX9_nextToken_187 ?_
              rw [wI_sR_n _ (by decide), hT]
              refine jr_goto 192 dX9_nextToken_188 (by decide) ?_
              refine pfX9_215 dX9_nextToken_192 (hw.k rfl) ?_
              rw [sR_sR, wI_sR_s]
              refine jr_goto 339 dX9_nextToken_195 (by decide) ?_
              refine jr_vret rfl dX9_nextToken_339 ?_
              refine fin _ _ eT ⟨?_, ?_, ?_, ?_, ?_⟩ ((hO1.up (by omega)).up (by omega))
              · rw [pk_un (by decide), pk_un (by decide)]; exact hg.1
              · rw [pk_un (by decide), pk_un (by decide)]; exact hg.2.1
              · rw [pk_un (by decide), pk_us]; first | exact (if_neg (jb_0.mp c_154)).symm | exact (if_pos (jb_1.mp c_154)).symm
              · rw [pk_un (by decide), pk_un (by decide)]; exact hg.2.2.2.1
              · rw [pk_us]; first | exact (if_pos (by omega)).symm | exact (if_neg (by omega)).symm
          · refine jr_iconst (4) dX9_nextToken_157 (by decide) ?_
            refine jr_goto 162 dX9_nextToken_158 (by decide) ?_
            refine pfX9_206 dX9_nextToken_162 (hw.k rfl) ?_
            rw [sR_sR, wI_sR_s]
            refine jr_aload_n dX9_nextToken_165 rfl ?_
            refine jr_aload_n dX9_nextToken_166 rfl ?_
            refine gfX9_203 dX9_nextToken_167 (hw.k rfl) ?_
            rw [wI_sR_s, pk_un (by decide), hg2]
            refine jr_aload_n dX9_nextToken_170 rfl ?_
            refine gfX9_209 dX9_nextToken_171 (hw.k rfl) ?_
            rw [wI_sR_s, pk_un (by decide), hg1]
            refine jr_isub dX9_nextToken_174 ?_
            rw [pk_sub (by omega)]
            refine jr_iconst (1) dX9_nextToken_175 (by decide) ?_
            refine jr_icmp_ne 191 dX9_nextToken_176 (by decide) (fun c_176 => ?_) (fun c_176 => ?_)
            · simp only [lt_i, le_i, eq_i, Int32.reduceToInt] at c_176
              refine jr_iconst (0) dX9_nextToken_191 (by decide) ?_
              refine pfX9_215 dX9_nextToken_192 (hw.k rfl) ?_
              rw [sR_sR, wI_sR_s]
              refine jr_goto 339 dX9_nextToken_195 (by decide) ?_
              refine jr_vret rfl dX9_nextToken_339 ?_
              refine fin _ _ eT ⟨?_, ?_, ?_, ?_, ?_⟩ ((hO1.up (by omega)).up (by omega))
              · rw [pk_un (by decide), pk_un (by decide)]; exact hg.1
              · rw [pk_un (by decide), pk_un (by decide)]; exact hg.2.1
              · rw [pk_un (by decide), pk_us]; first | exact (if_neg (jb_0.mp c_154)).symm | exact (if_pos (jb_1.mp c_154)).symm
              · rw [pk_un (by decide), pk_un (by decide)]; exact hg.2.2.2.1
              · rw [pk_us]; first | exact (if_pos (by omega)).symm | exact (if_neg (by omega)).symm
            · simp only [lt_i, le_i, eq_i, Int32.reduceToInt] at c_176
              refine jr_aload_n dX9_nextToken_179 rfl ?_
              refine gfX9_49 92 dX9_nextToken_180 (hw.k rfl) (hw.f rfl) ?_
              refine jr_aload_n dX9_nextToken_183 rfl ?_
              refine gfX9_209 dX9_nextToken_184 (hw.k rfl) ?_
              rw [wI_sR_s, pk_un (by decide), hg1]
              refine jr_iald bg (hw.k rfl) rfl ⟨by omega, by decide⟩ dX9_nextToken_187 ?_
              rw [wI_sR_n _ (by decide), hT]
              refine jr_goto 192 dX9_nextToken_188 (by decide) ?_
              refine pfX9_215 dX9_nextToken_192 (hw.k rfl) ?_
              rw [sR_sR, wI_sR_s]
              refine jr_goto 339 dX9_nextToken_195 (by decide) ?_
              refine jr_vret rfl dX9_nextToken_339 ?_
              refine fin _ _ eT ⟨?_, ?_, ?_, ?_, ?_⟩ ((hO1.up (by omega)).up (by omega))
              · rw [pk_un (by decide), pk_un (by decide)]; exact hg.1
              · rw [pk_un (by decide), pk_un (by decide)]; exact hg.2.1
              · rw [pk_un (by decide), pk_us]; first | exact (if_neg (jb_0.mp c_154)).symm | exact (if_pos (jb_1.mp c_154)).symm
              · rw [pk_un (by decide), pk_un (by decide)]; exact hg.2.2.2.1
              · rw [pk_us]; first | exact (if_pos (by omega)).symm | exact (if_neg (by omega)).symm
        refine jr_aload_n dX9_nextToken_90 rfl ?_
        refine jr_aload_n dX9_nextToken_91 rfl ?_
        refine gfX9_203 dX9_nextToken_92 (hw.k rfl) ?_
        rw [wI_sR_s, hf2]
        refine pfX9_209 dX9_nextToken_95 (hw.k rfl) ?_
        rw [sR_sR, wI_sR_s]
        refine jr_aload_n dX9_nextToken_98 rfl ?_
        refine gfX9_209 dX9_nextToken_99 (hw.k rfl) ?_
        rw [wI_sR_s, pk_us]
        refine jr_aload_n dX9_nextToken_102 rfl ?_
        refine gfX9_191 dX9_nextToken_103 (hw.k rfl) ?_
        rw [wI_sR_s, pk_un (by decide), hO15 f hO]
        refine jr_icmp_ne 117 dX9_nextToken_106 (by decide) (fun c_106 => ?_) (fun c_106 => absurd c_106 hnn)
        refine jr_aload_n dX9_nextToken_117 rfl ?_
        refine jr_aload_n dX9_nextToken_118 rfl ?_
        refine gfX9_209 dX9_nextToken_119 (hw.k rfl) ?_
        rw [wI_sR_s, pk_us]
        refine jc_Vi (c_isLetter g _ (by exact hw) T (by rw [wI_sR_n _ (by decide)]; exact hT) n hn (by rw [wI_sR_s, pk_un (by decide)]; exact hO15 f hO) bg (by omega)) lkX9_212 (hw.k rfl) rfl rfl (Nat.le_of_ble_eq_true rfl) (Nat.le_of_ble_eq_true rfl) dX9_nextToken_122 (fun r_122 w_122 h_122 => ?_)
        obtain ⟨rfl, rfl⟩ := h_122
        refine jr_if_eq 198 dX9_nextToken_125 (by decide) (fun c_125 => absurd c_125 (jb_1.mpr hc)) (fun c_125 => ?_)
        exact L128 _ K152 (n - bg) bg _ (by omega) heL hfu hOu
      · rw [if_neg hc] at eT
        by_cases hd : tpD T n bg
        · rw [if_pos hd] at eT
          have es : (nI (eD - bg)).toInt = ((eD - bg : Nat) : Int) := i_nI (by omega)
          have K282 : ∀ f1, TkR f1 (bg, eD, tk, numF T bg (eD - bg), le) → TkO (wI w 78) f1 → RR g RX9 cX9_nextToken 3 none "nextToken" 3 0 0 0 0 282 [some (.ref (gb g + 78)), some (.int (jb ((0 < b0 ∧ (tk = 1 ∨ tk = 2)) ∧ b0 = bg))), some (.int (nI b0))] [] (sR w 78 f1) Q := by
            intro f1 hg hO1
            have hg1 : f1 16 = nI bg := hg.1
            have hg2 : f1 17 = nI eD := hg.2.1
            refine jr_aload_n dX9_nextToken_282 rfl ?_
            refine jr_iload_n dX9_nextToken_283 rfl ?_
            refine jr_if_ne 300 dX9_nextToken_284 (by decide) (fun c_284 => ?_) (fun c_284 => ?_)
            · refine jr_iconst (4) dX9_nextToken_300 (by decide) ?_
              refine jr_goto 305 dX9_nextToken_301 (by decide) ?_
              refine pfX9_206 dX9_nextToken_305 (hw.k rfl) ?_
              rw [sR_sR, wI_sR_s]
              refine jr_goto 339 dX9_nextToken_308 (by decide) ?_
              refine jr_vret rfl dX9_nextToken_339 ?_
              refine fin _ _ eT ⟨?_, ?_, ?_, ?_, ?_⟩ (hO1.up (by omega))
              · rw [pk_un (by decide)]; exact hg.1
              · rw [pk_un (by decide)]; exact hg.2.1
              · rw [pk_us]; first | exact (if_pos (Or.inl (jb_1.mp c_284))).symm | exact (if_pos (Or.inr (by omega))).symm | exact (if_neg (fun e => e.elim (jb_0.mp c_284) (fun e2 => by omega))).symm
              · rw [pk_un (by decide)]; exact hg.2.2.2.1
              · rw [pk_un (by decide)]; exact hg.2.2.2.2
            · refine jr_aload_n dX9_nextToken_287 rfl ?_
              refine gfX9_203 dX9_nextToken_288 (hw.k rfl) ?_
              rw [wI_sR_s, hg2]
              refine jr_aload_n dX9_nextToken_291 rfl ?_
              refine gfX9_209 dX9_nextToken_292 (hw.k rfl) ?_
              rw [wI_sR_s, hg1]
              refine jr_isub dX9_nextToken_295 ?_
              rw [pk_sub (by omega)]
              refine jr_iconst (4) dX9_nextToken_296 (by decide) ?_
              refine jr_icmp_le 304 dX9_nextToken_297 (by decide) (fun c_297 => ?_) (fun c_297 => ?_)
              · simp only [lt_i, le_i, eq_i, Int32.reduceToInt] at c_297
                refine jr_iconst (2) dX9_nextToken_304 (by decide) ?_
                refine pfX9_206 dX9_nextToken_305 (hw.k rfl) ?_
                rw [sR_sR, wI_sR_s]
                refine jr_goto 339 dX9_nextToken_308 (by decide) ?_
                refine jr_vret rfl dX9_nextToken_339 ?_
                refine fin _ _ eT ⟨?_, ?_, ?_, ?_, ?_⟩ (hO1.up (by omega))
                · rw [pk_un (by decide)]; exact hg.1
                · rw [pk_un (by decide)]; exact hg.2.1
                · rw [pk_us]; first | exact (if_pos (Or.inl (jb_1.mp c_284))).symm | exact (if_pos (Or.inr (by omega))).symm | exact (if_neg (fun e => e.elim (jb_0.mp c_284) (fun e2 => by omega))).symm
                · rw [pk_un (by decide)]; exact hg.2.2.2.1
                · rw [pk_un (by decide)]; exact hg.2.2.2.2
              · simp only [lt_i, le_i, eq_i, Int32.reduceToInt] at c_297
                refine jr_iconst (4) dX9_nextToken_300 (by decide) ?_
                refine jr_goto 305 dX9_nextToken_301 (by decide) ?_
                refine pfX9_206 dX9_nextToken_305 (hw.k rfl) ?_
                rw [sR_sR, wI_sR_s]
                refine jr_goto 339 dX9_nextToken_308 (by decide) ?_
                refine jr_vret rfl dX9_nextToken_339 ?_
                refine fin _ _ eT ⟨?_, ?_, ?_, ?_, ?_⟩ (hO1.up (by omega))
                · rw [pk_un (by decide)]; exact hg.1
                · rw [pk_un (by decide)]; exact hg.2.1
                · rw [pk_us]; first | exact (if_pos (Or.inl (jb_1.mp c_284))).symm | exact (if_pos (Or.inr (by omega))).symm | exact (if_neg (fun e => e.elim (jb_0.mp c_284) (fun e2 => by omega))).symm
                · rw [pk_un (by decide)]; exact hg.2.2.2.1
                · rw [pk_un (by decide)]; exact hg.2.2.2.2
          refine jr_aload_n dX9_nextToken_90 rfl ?_
          refine jr_aload_n dX9_nextToken_91 rfl ?_
          refine gfX9_203 dX9_nextToken_92 (hw.k rfl) ?_
          rw [wI_sR_s, hf2]
          refine pfX9_209 dX9_nextToken_95 (hw.k rfl) ?_
          rw [sR_sR, wI_sR_s]
          refine jr_aload_n dX9_nextToken_98 rfl ?_
          refine gfX9_209 dX9_nextToken_99 (hw.k rfl) ?_
          rw [wI_sR_s, pk_us]
          refine jr_aload_n dX9_nextToken_102 rfl ?_
          refine gfX9_191 dX9_nextToken_103 (hw.k rfl) ?_
          rw [wI_sR_s, pk_un (by decide), hO15 f hO]
          refine jr_icmp_ne 117 dX9_nextToken_106 (by decide) (fun c_106 => ?_) (fun c_106 => absurd c_106 hnn)
          refine jr_aload_n dX9_nextToken_117 rfl ?_
          refine jr_aload_n dX9_nextToken_118 rfl ?_
          refine gfX9_209 dX9_nextToken_119 (hw.k rfl) ?_
          rw [wI_sR_s, pk_us]
          refine jc_Vi (c_isLetter g _ (by exact hw) T (by rw [wI_sR_n _ (by decide)]; exact hT) n hn (by rw [wI_sR_s, pk_un (by decide)]; exact hO15 f hO) bg (by omega)) lkX9_212 (hw.k rfl) rfl rfl (Nat.le_of_ble_eq_true rfl) (Nat.le_of_ble_eq_true rfl) dX9_nextToken_122 (fun r_122 w_122 h_122 => ?_)
          obtain ⟨rfl, rfl⟩ := h_122
          refine jr_if_eq 198 dX9_nextToken_125 (by decide) (fun c_125 => ?_) (fun c_125 => absurd (jb_f hc) c_125)
          refine jr_aload_n dX9_nextToken_198 rfl ?_
          refine jr_aload_n dX9_nextToken_199 rfl ?_
          refine gfX9_209 dX9_nextToken_200 (hw.k rfl) ?_
          rw [wI_sR_s, pk_us]
          refine jc_Vi (c_isDigit g _ (by exact hw) T (by rw [wI_sR_n _ (by decide)]; exact hT) n hn (by rw [wI_sR_s, pk_un (by decide)]; exact hO15 f hO) bg (by omega)) lkX9_218 (hw.k rfl) rfl rfl (Nat.le_of_ble_eq_true rfl) (Nat.le_of_ble_eq_true rfl) dX9_nextToken_203 (fun r_203 w_203 h_203 => ?_)
          obtain ⟨rfl, rfl⟩ := h_203
          refine jr_if_eq 311 dX9_nextToken_206 (by decide) (fun c_206 => absurd c_206 (jb_1.mpr hd)) (fun c_206 => ?_)
          refine jr_aload_n dX9_nextToken_209 rfl ?_
          refine jr_iconst (0) dX9_nextToken_210 (by decide) ?_
          refine pfX9_221 dX9_nextToken_211 (hw.k rfl) ?_
          rw [sR_sR, wI_sR_s]
          refine L214 _ K282 (n - bg) bg _ (by omega) (Nat.le_refl _) heD ⟨?_, ?_, ?_, ?_, ?_⟩ (hOu.up (by omega))
          · rw [pk_un (by decide)]; exact hfu.1
          · rw [pk_un (by decide)]; exact hfu.2.1
          · rw [pk_un (by decide)]; exact hfu.2.2.1
          · rw [pk_us, Nat.sub_self]; rfl
          · rw [pk_un (by decide)]; exact hfu.2.2.2.2
        · rw [if_neg hd] at eT
          refine jr_aload_n dX9_nextToken_90 rfl ?_
          refine jr_aload_n dX9_nextToken_91 rfl ?_
          refine gfX9_203 dX9_nextToken_92 (hw.k rfl) ?_
          rw [wI_sR_s, hf2]
          refine pfX9_209 dX9_nextToken_95 (hw.k rfl) ?_
          rw [sR_sR, wI_sR_s]
          refine jr_aload_n dX9_nextToken_98 rfl ?_
          refine gfX9_209 dX9_nextToken_99 (hw.k rfl) ?_
          rw [wI_sR_s, pk_us]
          refine jr_aload_n dX9_nextToken_102 rfl ?_
          refine gfX9_191 dX9_nextToken_103 (hw.k rfl) ?_
          rw [wI_sR_s, pk_un (by decide), hO15 f hO]
          refine jr_icmp_ne 117 dX9_nextToken_106 (by decide) (fun c_106 => ?_) (fun c_106 => absurd c_106 hnn)
          refine jr_aload_n dX9_nextToken_117 rfl ?_
          refine jr_aload_n dX9_nextToken_118 rfl ?_
          refine gfX9_209 dX9_nextToken_119 (hw.k rfl) ?_
          rw [wI_sR_s, pk_us]
          refine jc_Vi (c_isLetter g _ (by exact hw) T (by rw [wI_sR_n _ (by decide)]; exact hT) n hn (by rw [wI_sR_s, pk_un (by decide)]; exact hO15 f hO) bg (by omega)) lkX9_212 (hw.k rfl) rfl rfl (Nat.le_of_ble_eq_true rfl) (Nat.le_of_ble_eq_true rfl) dX9_nextToken_122 (fun r_122 w_122 h_122 => ?_)
          obtain ⟨rfl, rfl⟩ := h_122
          refine jr_if_eq 198 dX9_nextToken_125 (by decide) (fun c_125 => ?_) (fun c_125 => absurd (jb_f hc) c_125)
          refine jr_aload_n dX9_nextToken_198 rfl ?_
          refine jr_aload_n dX9_nextToken_199 rfl ?_
          refine gfX9_209 dX9_nextToken_200 (hw.k rfl) ?_
          rw [wI_sR_s, pk_us]
          refine jc_Vi (c_isDigit g _ (by exact hw) T (by rw [wI_sR_n _ (by decide)]; exact hT) n hn (by rw [wI_sR_s, pk_un (by decide)]; exact hO15 f hO) bg (by omega)) lkX9_218 (hw.k rfl) rfl rfl (Nat.le_of_ble_eq_true rfl) (Nat.le_of_ble_eq_true rfl) dX9_nextToken_203 (fun r_203 w_203 h_203 => ?_)
          obtain ⟨rfl, rfl⟩ := h_203
          refine jr_if_eq 311 dX9_nextToken_206 (by decide) (fun c_206 => ?_) (fun c_206 => absurd (jb_f hd) c_206)
          refine jr_aload_n dX9_nextToken_311 rfl ?_
          refine jr_iconst (3) dX9_nextToken_312 (by decide) ?_
          refine pfX9_206 dX9_nextToken_313 (hw.k rfl) ?_
          rw [sR_sR, wI_sR_s]
          refine jr_aload_n dX9_nextToken_316 rfl ?_
          refine jr_aload_n dX9_nextToken_317 rfl ?_
          refine gfX9_49 92 dX9_nextToken_318 (hw.k rfl) (hw.f rfl) ?_
          refine jr_aload_n dX9_nextToken_321 rfl ?_
          refine gfX9_209 dX9_nextToken_322 (hw.k rfl) ?_
          rw [wI_sR_s, pk_un (by decide), pk_us]
          refine jr_iald bg (hw.k rfl) rfl ⟨by omega, by decide⟩ dX9_nextToken_325 ?_
          rw [wI_sR_n _ (by decide), hT]
          refine pfX9_215 dX9_nextToken_326 (hw.k rfl) ?_
          rw [sR_sR, wI_sR_s]
          refine jr_aload_n dX9_nextToken_329 rfl ?_
          refine jr_dup dX9_nextToken_330 rfl ?_
          refine gfX9_203 dX9_nextToken_331 (hw.k rfl) ?_
          rw [wI_sR_s, pk_un (by decide), pk_un (by decide), pk_un (by decide), hf2]
          refine jr_iconst (1) dX9_nextToken_334 (by decide) ?_
          refine jr_iadd dX9_nextToken_335 ?_
          refine pfX9_203 dX9_nextToken_336 (hw.k rfl) ?_
          rw [sR_sR, wI_sR_s, jlit 1, nI_add]
          refine jr_vret rfl dX9_nextToken_339 ?_
          refine fin _ _ eT ⟨?_, ?_, ?_, ?_, ?_⟩ (((hOu.up (by omega)).up (by omega)).up (by omega))
          · rw [pk_un (by decide), pk_un (by decide), pk_un (by decide), pk_us]
          · rw [pk_us]
          · rw [pk_un (by decide), pk_un (by decide), pk_us]
          · rw [pk_un (by decide), pk_un (by decide), pk_un (by decide), pk_un (by decide)]; exact hf.2.2.2.1
          · rw [pk_un (by decide), pk_us]
  have ebg2 : (nI bg).toInt = (bg : Int) := i_nI (by omega)
  have K72 : ∀ f, TkR f (a0, bg, tk, nu, le) → TkO (wI w 78) f → RR g RX9 cX9_nextToken 3 none "nextToken" 3 0 0 0 0 72 [some (.ref (gb g + 78)), some (.int (jb (0 < b0 ∧ (tk = 1 ∨ tk = 2)))), some (.int (nI b0))] [] (sR w 78 f) Q := by
    intro f hf hO
    have h9 := K90 f hf hO
    have hf2 : f 17 = nI bg := hf.2.1
    refine jr_iload_n dX9_nextToken_72 rfl ?_
    refine jr_if_eq 88 dX9_nextToken_73 (by decide) (fun c_73 => ?_) (fun c_73 => ?_)
    · refine jr_iconst (0) dX9_nextToken_88 (by decide) ?_
      refine jr_istore_1 dX9_nextToken_89 (by decide) rfl ?_
      first | (rw [jb_f (fun e => jb_0.mp c_73 e.1)] at h9; exact h9) | (rw [jb_t ⟨jb_1.mp c_73, by omega⟩] at h9; exact h9) | (rw [jb_f (fun e => by omega)] at h9; exact h9)
    · refine jr_iload_n dX9_nextToken_76 rfl ?_
      refine jr_aload_n dX9_nextToken_77 rfl ?_
      refine gfX9_203 dX9_nextToken_78 (hw.k rfl) ?_
      rw [wI_sR_s, hf2]
      refine jr_icmp_ne 88 dX9_nextToken_81 (by decide) (fun c_81 => ?_) (fun c_81 => ?_)
      · simp only [lt_i, le_i, eq_i, Int32.reduceToInt] at c_81
        refine jr_iconst (0) dX9_nextToken_88 (by decide) ?_
        refine jr_istore_1 dX9_nextToken_89 (by decide) rfl ?_
        first | (rw [jb_f (fun e => jb_0.mp c_73 e.1)] at h9; exact h9) | (rw [jb_t ⟨jb_1.mp c_73, by omega⟩] at h9; exact h9) | (rw [jb_f (fun e => by omega)] at h9; exact h9)
      · simp only [lt_i, le_i, eq_i, Int32.reduceToInt] at c_81
        refine jr_iconst (1) dX9_nextToken_84 (by decide) ?_
        refine jr_goto 89 dX9_nextToken_85 (by decide) ?_
        refine jr_istore_1 dX9_nextToken_89 (by decide) rfl ?_
        first | (rw [jb_f (fun e => jb_0.mp c_73 e.1)] at h9; exact h9) | (rw [jb_t ⟨jb_1.mp c_73, by omega⟩] at h9; exact h9) | (rw [jb_f (fun e => by omega)] at h9; exact h9)
  have hid : sR w 78 (wI w 78) = w := sR_id _ _
  have h34 := L (jb (0 < b0 ∧ (tk = 1 ∨ tk = 2))) K72 (n - b0) b0 (wI w 78) (by omega) ebg ⟨k16, k17, k18, k19, k20⟩ TkO.rf
  rw [hid] at h34
  refine jr_aload_n dX9_nextToken_0 rfl ?_
  refine gfX9_203 dX9_nextToken_1 (hw.k rfl) ?_
  rw [k17]
  refine jr_if_le 27 dX9_nextToken_4 (by decide) (fun c_4 => ?_) (fun c_4 => ?_)
  · simp only [lt_i, le_i, eq_i, Int32.reduceToInt] at c_4
    refine jr_iconst (0) dX9_nextToken_27 (by decide) ?_
    refine jr_istore_1 dX9_nextToken_28 (by decide) rfl ?_
    refine jr_aload_n dX9_nextToken_29 rfl ?_
    refine gfX9_203 dX9_nextToken_30 (hw.k rfl) ?_
    rw [k17]
    refine jr_istore_2 dX9_nextToken_33 (by decide) rfl ?_
    first | (have hx : jb (0 < b0 ∧ (tk = 1 ∨ tk = 2)) = 0 := jb_f (fun e => by omega); rw [hx] at h34; exact h34) | (have hx : jb (0 < b0 ∧ (tk = 1 ∨ tk = 2)) = 1 := jb_t (And.intro (by omega) (Or.inl c_12)); rw [hx] at h34; exact h34) | (have hx : jb (0 < b0 ∧ (tk = 1 ∨ tk = 2)) = 1 := jb_t (And.intro (by omega) (Or.inr c_20)); rw [hx] at h34; exact h34) | (have hx : jb (0 < b0 ∧ (tk = 1 ∨ tk = 2)) = 0 := jb_f (fun e => e.2.elim c_12 c_20); rw [hx] at h34; exact h34)
  · simp only [lt_i, le_i, eq_i, Int32.reduceToInt] at c_4
    refine jr_aload_n dX9_nextToken_7 rfl ?_
    refine gfX9_206 dX9_nextToken_8 (hw.k rfl) ?_
    rw [k18]
    refine jr_iconst (1) dX9_nextToken_11 (by decide) ?_
    refine jr_icmp_eq 23 dX9_nextToken_12 (by decide) (fun c_12 => ?_) (fun c_12 => ?_)
    · refine jr_iconst (1) dX9_nextToken_23 (by decide) ?_
      refine jr_goto 28 dX9_nextToken_24 (by decide) ?_
      refine jr_istore_1 dX9_nextToken_28 (by decide) rfl ?_
      refine jr_aload_n dX9_nextToken_29 rfl ?_
      refine gfX9_203 dX9_nextToken_30 (hw.k rfl) ?_
      rw [k17]
      refine jr_istore_2 dX9_nextToken_33 (by decide) rfl ?_
      first | (have hx : jb (0 < b0 ∧ (tk = 1 ∨ tk = 2)) = 0 := jb_f (fun e => by omega); rw [hx] at h34; exact h34) | (have hx : jb (0 < b0 ∧ (tk = 1 ∨ tk = 2)) = 1 := jb_t (And.intro (by omega) (Or.inl c_12)); rw [hx] at h34; exact h34) | (have hx : jb (0 < b0 ∧ (tk = 1 ∨ tk = 2)) = 1 := jb_t (And.intro (by omega) (Or.inr c_20)); rw [hx] at h34; exact h34) | (have hx : jb (0 < b0 ∧ (tk = 1 ∨ tk = 2)) = 0 := jb_f (fun e => e.2.elim c_12 c_20); rw [hx] at h34; exact h34)
    · refine jr_aload_n dX9_nextToken_15 rfl ?_
      refine gfX9_206 dX9_nextToken_16 (hw.k rfl) ?_
      rw [k18]
      refine jr_iconst (2) dX9_nextToken_19 (by decide) ?_
      refine jr_icmp_ne 27 dX9_nextToken_20 (by decide) (fun c_20 => ?_) (fun c_20 => ?_)
      · refine jr_iconst (0) dX9_nextToken_27 (by decide) ?_
        refine jr_istore_1 dX9_nextToken_28 (by decide) rfl ?_
        refine jr_aload_n dX9_nextToken_29 rfl ?_
        refine gfX9_203 dX9_nextToken_30 (hw.k rfl) ?_
        rw [k17]
        refine jr_istore_2 dX9_nextToken_33 (by decide) rfl ?_
        first | (have hx : jb (0 < b0 ∧ (tk = 1 ∨ tk = 2)) = 0 := jb_f (fun e => by omega); rw [hx] at h34; exact h34) | (have hx : jb (0 < b0 ∧ (tk = 1 ∨ tk = 2)) = 1 := jb_t (And.intro (by omega) (Or.inl c_12)); rw [hx] at h34; exact h34) | (have hx : jb (0 < b0 ∧ (tk = 1 ∨ tk = 2)) = 1 := jb_t (And.intro (by omega) (Or.inr c_20)); rw [hx] at h34; exact h34) | (have hx : jb (0 < b0 ∧ (tk = 1 ∨ tk = 2)) = 0 := jb_f (fun e => e.2.elim c_12 c_20); rw [hx] at h34; exact h34)
      · refine jr_iconst (1) dX9_nextToken_23 (by decide) ?_
        refine jr_goto 28 dX9_nextToken_24 (by decide) ?_
        refine jr_istore_1 dX9_nextToken_28 (by decide) rfl ?_
        refine jr_aload_n dX9_nextToken_29 rfl ?_
        refine gfX9_203 dX9_nextToken_30 (hw.k rfl) ?_
        rw [k17]
        refine jr_istore_2 dX9_nextToken_33 (by decide) rfl ?_
        first | (have hx : jb (0 < b0 ∧ (tk = 1 ∨ tk = 2)) = 0 := jb_f (fun e => by omega); rw [hx] at h34; exact h34) | (have hx : jb (0 < b0 ∧ (tk = 1 ∨ tk = 2)) = 1 := jb_t (And.intro (by omega) (Or.inl c_12)); rw [hx] at h34; exact h34) | (have hx : jb (0 < b0 ∧ (tk = 1 ∨ tk = 2)) = 1 := jb_t (And.intro (by omega) (Or.inr c_20)); rw [hx] at h34; exact h34) | (have hx : jb (0 < b0 ∧ (tk = 1 ∨ tk = 2)) = 0 := jb_f (fun e => e.2.elim c_12 c_20); rw [hx] at h34; exact h34)
