-- the class: which times fit
theorem b_1 {j : Nat} : bt 1 j = decide (j = 0) := by
  rcases Nat.lt_or_ge j 32 with h | h
  · exact (by decide +kernel : ∀ j, j < 32 → bt 1 j = decide (j = 0)) j h
  · rw [b_big h, decide_eq_false (by omega)]
theorem b_one {n i : Nat} (hn : n < 32) (hi : i < 32) : bt ((1 : Int32) <<< (nI n &&& 31)) i = decide (i = n) := by
  rw [b_shl n hn 1 hi, b_1]
  by_cases h : i = n
  · subst h; simp
  · by_cases h2 : n ≤ i
    · have : ¬ i - n = 0 := by omega
      simp [h, this]
    · simp [h, h2]
/-- a note can stand for a minute with u strokes -/
abbrev alP (s : Nat → Int32) (k u : Nat) : Prop := sN s (28 + k) ≤ u + (if 0 < sN s 7 then 1 else 0) ∧ (sN s 6 < 100 ∨ u ≤ sN s (28 + k))
def AlR (f s : Nat → Int32) : Prop := ∀ u, u ≤ 96 → ∀ b, b < 32 → bt (f u) b = decide (b < sN s 8 ∧ alP s (sN s 8 - 1 - b) u)
def scU : Nat → Prop := fun i => i = 34 ∨ i = 36
theorem NR.u {w w' : Wd} {a : Nat} {s : Nat → Int32} (h : NR w a s) (ha : NA a) (hS : Sm scU w w') : NR w' a s :=
  h.sm hS (fun i hi e => by
    have := ha.le
    unfold scU at e
    omega)
theorem c_useNotes (g : Cx) (w : Wd) (hw : Wf w) (a : Nat) (hA : NA a) (s : Nat → Int32) (hG : Gd s) (hN : NR w a s) : CV g yX1_useNotes cX1_useNotes 5 2 0 0 [.ref (gb g + 34), .ref (gb g + a)] w (fun w' => wI w' 34 2 = s 8 ∧ AlR (wI w' 36) s ∧ Sm scU w w') := by
  obtain ⟨-, -, -, -, -, h8, -, hNo, -⟩ := id hG
  have h12 := h8.2
  refine CV.of (own := RX1) (nm := "useNotes") (lv := [some (.ref (gb g + 34)), some (.ref (gb g + a)), none, none, none]) (by decide) rfl rfl (Nat.le_of_ble_eq_true rfl) rfl (fun Q hQ => ?_)
  have L : ∀ (f u : Nat) (w1 : Wd) (a3 a4 : Option Value), f + u = 97 → Sm scU w w1 → wI w1 34 2 = s 8 → (∀ v, v < u → ∀ b, b < 32 → bt (wI w1 36 v) b = decide (b < sN s 8 ∧ alP s (sN s 8 - 1 - b) v)) → RR g RX1 cX1_useNotes 5 none "useNotes" 2 0 0 0 0 10 [some (.ref (gb g + 34)), some (.ref (gb g + a)), some (.int (nI u)), a3, a4] [] w1 Q := by
    intro f
    induction f with
    | zero =>
      intro u w1 a3 a4 hu hS hc hA1
      have e : u = 97 := by omega
      subst e
      refine jr_iload_n dX1_useNotes_10 rfl ?_
      refine jr_bipush (96) dX1_useNotes_11 (by decide) ?_
      refine jr_icmp_gt 78 dX1_useNotes_13 (by decide) (fun c_13 => ?_) (fun c_13 => absurd (by decide) c_13)
      refine jr_vret rfl dX1_useNotes_78 ?_
      exact hQ _ ⟨hc, fun v hv => hA1 v (by omega), hS⟩
    | succ f ih =>
      intro u w1 a3 a4 hu hS hc hA1
      have hw1 := hS.wf hw
      have hN1 := hN.u hA hS
      have L2 : ∀ (f2 k : Nat) (x : Int32), f2 + k = sN s 8 → (∀ b, b < 32 → bt x b = decide (b < sN s 8 ∧ sN s 8 - 1 - b < k ∧ alP s (sN s 8 - 1 - b) u)) → RR g RX1 cX1_useNotes 5 none "useNotes" 2 0 0 0 0 21 [some (.ref (gb g + 34)), some (.ref (gb g + a)), some (.int (nI u)), some (.int x), some (.int (nI k))] [] w1 Q := by
        intro f2
        induction f2 with
        | zero =>
          intro k x hk hx
          have e : k = sN s 8 := by omega
          refine jr_iload dX1_useNotes_21 rfl ?_
          refine jr_aload_n dX1_useNotes_23 rfl ?_
          refine gfX1_18 dX1_useNotes_24 (hw1.k rfl) ?_
          refine jr_icmp_ge 65 dX1_useNotes_27 (by decide) (fun c_27 => ?_) (fun c_27 => absurd (by rw [hc, h8.1, e]; exact Int32.le_refl _) c_27)
          refine jr_aload_n dX1_useNotes_65 rfl ?_
          refine gfX1_15 36 dX1_useNotes_66 (hw1.k rfl) (hw1.f rfl) ?_
          refine jr_iload_n dX1_useNotes_69 rfl ?_
          refine jr_iload_n dX1_useNotes_70 rfl ?_
          refine jr_iast u (hw1.k rfl) rfl ⟨by omega, by decide⟩ dX1_useNotes_71 ?_
          refine jr_iinc_2 (nI (u + 1)) dX1_useNotes_72 (inc1 u) (by decide) rfl ?_
          refine jr_goto 10 dX1_useNotes_75 (by decide) ?_
          refine ih (u + 1) _ _ _ (by omega) (hS.tr (Sm.sR (Or.inr rfl))) (by rw [wI_sR_n _ (by decide)]; exact hc) (fun v hv b hb => ?_)
          rw [wI_sR_s]
          by_cases e2 : v = u
          · subst e2
            rw [pk_us, hx b hb]
            congr 1
            exact propext ⟨fun h => ⟨h.1, h.2.2⟩, fun h => ⟨h.1, by omega, h.2⟩⟩
          · rw [pk_un e2]
            exact hA1 v (by omega) b hb
        | succ f2 ih2 =>
          intro k x hk hx
          have hk12 : k < 12 := by omega
          have hno := hNo k hk12
          have hno2 := hno.2
          have esub : nI (sN s 8) - 1 - nI k = nI (sN s 8 - 1 - k) := by rw [sub1 (by omega), pk_sub (by omega)]
          by_cases hal : alP s k u
          · refine jr_iload dX1_useNotes_21 rfl ?_
            refine jr_aload_n dX1_useNotes_23 rfl ?_
            refine gfX1_18 dX1_useNotes_24 (hw1.k rfl) ?_
            refine jr_icmp_ge 65 dX1_useNotes_27 (by decide) (fun c_27 => absurd c_27 (by rw [hc, h8.1]; exact nI_ge (by omega) (by omega))) (fun c_27 => ?_)
            refine jr_aload_n dX1_useNotes_30 rfl ?_
            refine jr_aload_n dX1_useNotes_31 rfl ?_
            refine gfX1_82 (a + 2) dX1_useNotes_32 (hA.n hw1) (hA.ro hw1) ?_
            refine jr_iload dX1_useNotes_35 rfl ?_
            refine jr_iald k (hA.o hw1) rfl ⟨hk12, by decide⟩ dX1_useNotes_37 ?_
            rw [hN1.2.1 k hk12, hno.1]
            refine jr_iload_n dX1_useNotes_38 rfl ?_
            refine jc_Vi (c_allows g _ hw1 a hA s hG hN1 _ u (by omega) (by omega)) lkX1_85 (hA.n hw1) rfl rfl (Nat.le_of_ble_eq_true rfl) (Nat.le_of_ble_eq_true rfl) dX1_useNotes_39 (fun r_39 w_39 h_39 => ?_)
            obtain ⟨rfl, rfl⟩ := h_39
            refine jr_if_eq 59 dX1_useNotes_42 (by decide) (fun c_42 => absurd c_42 (jb_1.mpr hal)) (fun c_42 => ?_)
            refine jr_iload_n dX1_useNotes_45 rfl ?_
            refine jr_iconst (1) dX1_useNotes_46 (by decide) ?_
            refine jr_aload_n dX1_useNotes_47 rfl ?_
            refine gfX1_18 dX1_useNotes_48 (hw1.k rfl) ?_
            rw [hc, h8.1]
            refine jr_iconst (1) dX1_useNotes_51 (by decide) ?_
            refine jr_isub dX1_useNotes_52 ?_
            refine jr_iload dX1_useNotes_53 rfl ?_
            refine jr_isub dX1_useNotes_55 ?_
            rw [esub]
            refine jr_ishl dX1_useNotes_56 ?_
            refine jr_ior dX1_useNotes_57 ?_
            refine jr_istore_3 dX1_useNotes_58 (by decide) rfl ?_
            refine jr_iinc_4 (nI (k + 1)) dX1_useNotes_59 (inc1 k) (by decide) rfl ?_
            refine jr_goto 21 dX1_useNotes_62 (by decide) ?_
            refine ih2 (k + 1) _ (by omega) (fun b hb => ?_)
            rw [b_or, hx b hb, b_one (by omega) hb]
            by_cases e2 : b = sN s 8 - 1 - k
            · have e3 : sN s 8 - 1 - b = k := by omega
              rw [e3, decide_eq_true (show b < sN s 8 ∧ k < k + 1 ∧ alP s k u from ⟨by omega, by omega, hal⟩), decide_eq_true e2]
              exact Bool.or_true _
            · rw [decide_eq_false e2, Bool.or_false]
              congr 1
              exact propext ⟨fun h => ⟨h.1, by omega, h.2.2⟩, fun h => ⟨h.1, by omega, h.2.2⟩⟩
          · refine jr_iload dX1_useNotes_21 rfl ?_
            refine jr_aload_n dX1_useNotes_23 rfl ?_
            refine gfX1_18 dX1_useNotes_24 (hw1.k rfl) ?_
            refine jr_icmp_ge 65 dX1_useNotes_27 (by decide) (fun c_27 => absurd c_27 (by rw [hc, h8.1]; exact nI_ge (by omega) (by omega))) (fun c_27 => ?_)
            refine jr_aload_n dX1_useNotes_30 rfl ?_
            refine jr_aload_n dX1_useNotes_31 rfl ?_
            refine gfX1_82 (a + 2) dX1_useNotes_32 (hA.n hw1) (hA.ro hw1) ?_
            refine jr_iload dX1_useNotes_35 rfl ?_
            refine jr_iald k (hA.o hw1) rfl ⟨hk12, by decide⟩ dX1_useNotes_37 ?_
            rw [hN1.2.1 k hk12, hno.1]
            refine jr_iload_n dX1_useNotes_38 rfl ?_
            refine jc_Vi (c_allows g _ hw1 a hA s hG hN1 _ u (by omega) (by omega)) lkX1_85 (hA.n hw1) rfl rfl (Nat.le_of_ble_eq_true rfl) (Nat.le_of_ble_eq_true rfl) dX1_useNotes_39 (fun r_39 w_39 h_39 => ?_)
            obtain ⟨rfl, rfl⟩ := h_39
            refine jr_if_eq 59 dX1_useNotes_42 (by decide) (fun c_42 => ?_) (fun c_42 => absurd (jb_f hal) c_42)
            refine jr_iinc_4 (nI (k + 1)) dX1_useNotes_59 (inc1 k) (by decide) rfl ?_
            refine jr_goto 21 dX1_useNotes_62 (by decide) ?_
            refine ih2 (k + 1) _ (by omega) (fun b hb => ?_)
            rw [hx b hb]
            congr 1
            refine propext ⟨fun h => ⟨h.1, by omega, h.2.2⟩, fun h => ⟨h.1, ?_, h.2.2⟩⟩
            by_cases e2 : sN s 8 - 1 - b = k
            · rw [e2] at h
              exact absurd h.2.2 hal
            · omega
      refine jr_iload_n dX1_useNotes_10 rfl ?_
      refine jr_bipush (96) dX1_useNotes_11 (by decide) ?_
      refine jr_icmp_gt 78 dX1_useNotes_13 (by decide) (fun c_13 => absurd c_13 (by rw [jlit 96]; exact nI_nlt (by omega) (by decide))) (fun c_13 => ?_)
      refine jr_iconst (0) dX1_useNotes_16 (by decide) ?_
      refine jr_istore_3 dX1_useNotes_17 (by decide) rfl ?_
      refine jr_iconst (0) dX1_useNotes_18 (by decide) ?_
      refine jr_istore_4 dX1_useNotes_19 (by decide) rfl ?_
      exact L2 _ 0 _ rfl (fun b hb => by rw [b_0, decide_eq_false (by omega)])
  refine jr_aload_n dX1_useNotes_0 rfl ?_
  refine jr_aload_n dX1_useNotes_1 rfl ?_
  refine gfX1_81 dX1_useNotes_2 (hA.n hw) ?_
  rw [hN.1.2.2.2.2.2.2.2.2.1]
  refine pfX1_18 dX1_useNotes_5 (hw.k rfl) ?_
  refine jr_iconst (0) dX1_useNotes_8 (by decide) ?_
  refine jr_istore_2 dX1_useNotes_9 (by decide) rfl ?_
  exact L 97 0 _ _ _ rfl (Sm.sR (Or.inl rfl)) (by rw [wI_sR_s, pk_us]) (fun v hv => absurd hv (by omega))
theorem fitB_iff (s : Nat → Int32) (T : Nat → Nat) (t : Nat) : ∀ n, fitB s T t n = true ↔ ∀ k, k < n → alP s k (T ((t + 720 - k) % 720))
  | 0 => ⟨fun _ k hk => absurd hk (by omega), fun _ => rfl⟩
  | n + 1 => by
    simp only [fitB, Bool.and_eq_true, decide_eq_true_eq]
    rw [fitB_iff s T t n]
    constructor
    · intro h k hk
      by_cases e : k = n
      · rw [e]; exact h.2
      · exact h.1 k (by omega)
    · intro h
      exact ⟨fun k hk => h k (by omega), h n (by omega)⟩
def qB (s : Nat → Int32) (T : Nat → Nat) (j b : Nat) : Prop := b < sN s 8 ∧ b < j ∧ ∀ e, e ≤ b → alP s (sN s 8 - 1 - b + e) (T ((j - 1 - e + 708) % 720))
theorem qB_s {s : Nat → Int32} {T : Nat → Nat} {j b : Nat} : qB s T (j + 1) b ↔ ((b = 0 ∨ (1 ≤ b ∧ qB s T j (b - 1))) ∧ b < sN s 8 ∧ alP s (sN s 8 - 1 - b) (T ((j + 708) % 720))) := by
  unfold qB
  constructor
  · rintro ⟨h1, h2, h3⟩
    refine ⟨?_, h1, ?_⟩
    · by_cases hb : b = 0
      · exact Or.inl hb
      · refine Or.inr ⟨by omega, by omega, by omega, fun e he => ?_⟩
        have h4 := h3 (e + 1) (by omega)
        rw [show sN s 8 - 1 - b + (e + 1) = sN s 8 - 1 - (b - 1) + e by omega, show j + 1 - 1 - (e + 1) + 708 = j - 1 - e + 708 by omega] at h4
        exact h4
    · have h4 := h3 0 (by omega)
      rw [Nat.add_zero, show j + 1 - 1 - 0 + 708 = j + 708 by omega] at h4
      exact h4
  · rintro ⟨h1, h2, h3⟩
    refine ⟨h2, ?_, fun e he => ?_⟩
    · rcases h1 with h1 | ⟨h1, -, h5, -⟩ <;> omega
    · by_cases e0 : e = 0
      · subst e0
        rw [Nat.add_zero, show j + 1 - 1 - 0 + 708 = j + 708 by omega]
        exact h3
      · rcases h1 with h1 | ⟨h1, -, h5, h6⟩
        · omega
        · have h4 := h6 (e - 1) (by omega)
          rw [show sN s 8 - 1 - (b - 1) + (e - 1) = sN s 8 - 1 - b + e by omega, show j - 1 - (e - 1) + 708 = j + 1 - 1 - e + 708 by omega] at h4
          exact h4
theorem qB_fit {s : Nat → Int32} {T : Nat → Nat} {t : Nat} (h12 : sN s 8 ≤ 12) (h : 1 ≤ sN s 8) : qB s T (t + 13) (sN s 8 - 1) ↔ fitP s T t = true := by
  unfold fitP
  rw [fitB_iff]
  unfold qB
  constructor
  · intro h1 k hk
    have h2 := h1.2.2 k (by omega)
    rw [show sN s 8 - 1 - (sN s 8 - 1) + k = k by omega, show t + 13 - 1 - k + 708 = t + 720 - k by omega] at h2
    exact h2
  · intro h1
    refine ⟨by omega, by omega, fun e he => ?_⟩
    rw [show sN s 8 - 1 - (sN s 8 - 1) + e = e by omega, show t + 13 - 1 - e + 708 = t + 720 - e by omega]
    exact h1 e (by omega)
theorem t12 {j : Nat} (h : j < 732) : nI j - 12 + Int32.ofInt 1 = nI (j + 1) - 12 := by
  by_cases c : j < 12
  · exact (by decide +kernel : ∀ j, j < 12 → nI j - 12 + Int32.ofInt 1 = nI (j + 1) - 12) j c
  · rw [jlit 12, pk_sub (by omega), pk_sub (by omega), inc1]
    congr 1
    omega
theorem wh_and {nc : Nat} (hn : nc ≤ 12) (h1 : 1 ≤ nc) (x : Int32) : (x &&& (1 : Int32) <<< (nI (nc - 1) &&& 31) = (1 : Int32) <<< (nI (nc - 1) &&& 31)) ↔ bt x (nc - 1) = true := by
  constructor
  · intro h
    have h2 := congrArg (fun z => bt z (nc - 1)) h
    simp only [b_and, b_one (n := nc - 1) (i := nc - 1) (by omega) (by omega), decide_true, Bool.and_true] at h2
    exact h2
  · intro h
    refine b_ext (fun i hi => ?_)
    rw [b_and, b_one (by omega) hi]
    by_cases e : i = nc - 1
    · rw [e, h]; rfl
    · rw [decide_eq_false e, Bool.and_false]
def fsI (p : Nat → Bool) (t : Nat) : Int32 := if fstB p t < t then nI (fstB p t) else -1000000005
theorem fstB_le (p : Nat → Bool) : ∀ n, fstB p n ≤ n
  | 0 => Nat.le_refl _
  | n + 1 => by
    have := fstB_le p n
    simp only [fstB]
    split
    · omega
    · split <;> omega
/-- what is found of all times -/
def FdR (f s : Nat → Int32) (T : Nat → Nat) : Prop := f 3 = nI (cntB (fitP s T) 720) ∧ f 4 = hrsB (fitP s T) 720 ∧ f 5 = fsI (fitP s T) 720
theorem c_findTimes (g : Cx) (w : Wd) (hw : Wf w) (s : Nat → Int32) (h8 : Nb s 8 12) (T : Nat → Nat) (hT : AllR (wI w 35) T) (hT96 : ∀ t, T t ≤ 96) (hc : wI w 34 2 = s 8) (hA : AlR (wI w 36) s) : CV g yX1_findTimes cX1_findTimes 5 3 0 0 [.ref (gb g + 34)] w (fun w' => FdR (wI w' 34) s T ∧ wI w' 34 2 = s 8 ∧ Sm (fun i => i = 34) w w') := by
  have h12 := h8.2
  obtain ⟨p, hp⟩ : ∃ p, p = fitP s T := ⟨_, rfl⟩
  refine CV.of (own := RX1) (nm := "findTimes") (lv := [some (.ref (gb g + 34)), none, none, none, none]) (by decide) rfl rfl (Nat.le_of_ble_eq_true rfl) rfl (fun Q hQ => ?_)
  have L : ∀ (wh : Int32), (∀ x, (x &&& wh = wh) ↔ (sN s 8 = 0 ∨ bt x (sN s 8 - 1) = true)) → ∀ (f j : Nat) (x : Int32) (F : Nat → Int32) (a4 : Option Value), f + j = 732 → (∀ b, b < 32 → (bt x b = true ↔ qB s T j b)) → F 2 = s 8 → F 3 = nI (cntB p (j - 12)) → F 4 = hrsB p (j - 12) → F 5 = fsI p (j - 12) → RR g RX1 cX1_findTimes 5 none "findTimes" 3 0 0 0 0 41 [some (.ref (gb g + 34)), some (.int wh), some (.int x), some (.int (nI j - 12)), a4] [] (sR w 34 F) Q := by
    intro wh hwh f
    induction f with
    | zero =>
      intro j x F a4 hj hx f2 f3 f4 f5
      have e : j = 732 := by omega
      subst e
      rw [hp] at f3 f4 f5
      refine jr_iload_n dX1_findTimes_41 rfl ?_
      refine jr_sipush (720) dX1_findTimes_42 (by decide) ?_
      refine jr_icmp_ge 151 dX1_findTimes_45 (by decide) (fun c_45 => ?_) (fun c_45 => absurd (by decide) c_45)
      refine jr_vret rfl dX1_findTimes_151 ?_
      exact hQ _ ⟨by rw [wI_sR_s]; exact ⟨f3, f4, f5⟩, by rw [wI_sR_s]; exact f2, Sm.sR rfl⟩
    | succ f ih =>
      intro j x F a4 hj hx f2 f3 f4 f5
      have hlt : (j + 708) % 720 < 720 := Nat.mod_lt _ (by decide)
      have hu := hT96 ((j + 708) % 720)
      have eu : (nI (T ((j + 708) % 720))).toInt = (T ((j + 708) % 720) : Int) := i_nI (by omega)
      have hheld : (if (0 : Int32).toInt < (if (nI (T ((j + 708) % 720))).toInt < (96 : Int32).toInt then nI (T ((j + 708) % 720)) else 96).toInt then (if (nI (T ((j + 708) % 720))).toInt < (96 : Int32).toInt then nI (T ((j + 708) % 720)) else 96) else 0) = nI (T ((j + 708) % 720)) := by
        have e96 : (96 : Int32).toInt = 96 := rfl
        have e0 : (0 : Int32).toInt = 0 := rfl
        rw [e96, e0]
        by_cases c : (nI (T ((j + 708) % 720))).toInt < 96
        · rw [if_pos c]
          by_cases c2 : 0 < (nI (T ((j + 708) % 720))).toInt
          · rw [if_pos c2]
          · rw [if_neg c2, show T ((j + 708) % 720) = 0 by omega]; rfl
        · rw [if_neg c, if_pos (by decide), show T ((j + 708) % 720) = 96 by omega]; rfl
      obtain ⟨x', ex'⟩ : ∃ x', x' = (x <<< ((1 : Int32) &&& 31) ||| 1) &&& wI w 36 (T ((j + 708) % 720)) := ⟨_, rfl⟩
      have hx' : ∀ b, b < 32 → (bt x' b = true ↔ qB s T (j + 1) b) := by
        intro b hb
        rw [qB_s, ex', b_and, b_or, show ((1 : Int32) &&& 31) = (nI 1 &&& 31) from rfl, b_shl 1 (by decide) x hb, b_1, hA _ hu b hb]
        simp only [Bool.and_eq_true, Bool.or_eq_true, decide_eq_true_eq]
        by_cases hb0 : b = 0
        · constructor
          · exact fun h => ⟨Or.inl hb0, h.2⟩
          · exact fun h => ⟨Or.inr hb0, h.2⟩
        · constructor
          · rintro ⟨h | h, h2⟩
            · exact ⟨Or.inr ⟨h.1, (hx (b - 1) (by omega)).mp h.2⟩, h2⟩
            · exact absurd h hb0
          · rintro ⟨h | h, h2⟩
            · exact absurd h hb0
            · exact ⟨Or.inl ⟨h.1, (hx (b - 1) (by omega)).mpr h.2⟩, h2⟩
      have K65 : RR g RX1 cX1_findTimes 5 none "findTimes" 3 0 0 0 0 65 [some (.ref (gb g + 34)), some (.int wh), some (.int x), some (.int (nI j - 12)), a4] [.int (nI ((j + 708) % 720)), .ref (gb g + 35)] (sR w 34 F) Q := by
        by_cases hj12 : j < 12
        · have h9 := ih (j + 1) x' F (some (.int (nI (T ((j + 708) % 720))))) (by omega) hx' f2 (by rw [show j + 1 - 12 = j - 12 by omega]; exact f3) (by rw [show j + 1 - 12 = j - 12 by omega]; exact f4) (by rw [show j + 1 - 12 = j - 12 by omega]; exact f5)
          rw [ex'] at h9
          refine jr_iald ((j + 708) % 720) (hw.k rfl) rfl ⟨hlt, by decide⟩ dX1_findTimes_65 ?_
          rw [wI_sR_n _ (by decide), hT _ hlt]
          refine jr_istore_4 dX1_findTimes_66 (by decide) rfl ?_
          refine jr_iload_n dX1_findTimes_68 rfl ?_
          refine jr_iconst (1) dX1_findTimes_69 (by decide) ?_
          refine jr_ishl dX1_findTimes_70 ?_
          refine jr_iconst (1) dX1_findTimes_71 (by decide) ?_
          refine jr_ior dX1_findTimes_72 ?_
          refine jr_aload_n dX1_findTimes_73 rfl ?_
          refine gfX1_15 36 dX1_findTimes_74 (hw.k rfl) (hw.f rfl) ?_
          refine jr_iload dX1_findTimes_77 rfl ?_
          refine jr_iconst (0) dX1_findTimes_79 (by decide) ?_
          refine jr_bipush (96) dX1_findTimes_80 (by decide) ?_
          refine jc_SNi (c_held g _ _ _ _) lkX1_88 rfl rfl (Nat.le_of_ble_eq_true rfl) (Nat.le_of_ble_eq_true rfl) dX1_findTimes_82 (fun r_82 w_82 h_82 => ?_)
          obtain ⟨rfl, rfl⟩ := h_82
          rw [hheld]
          refine jr_iald (T ((j + 708) % 720)) (hw.k rfl) rfl ⟨by omega, by decide⟩ dX1_findTimes_85 ?_
          rw [wI_sR_n _ (by decide)]
          refine jr_iand dX1_findTimes_86 ?_
          refine jr_istore_2 dX1_findTimes_87 (by decide) rfl ?_
          refine jr_iload_n dX1_findTimes_88 rfl ?_
          refine jr_if_lt 145 dX1_findTimes_89 (by decide) (fun c_89 => ?_) (fun c_89 => absurd (by rw [lt_i, jlit 12, pk_sub_toInt (by omega) (by decide)]; show _ < (0 : Int); omega) c_89)
          refine jr_iinc_3 (nI (j + 1) - 12) dX1_findTimes_145 (t12 (by omega)) (by decide) rfl ?_
          refine jr_goto 41 dX1_findTimes_148 (by decide) ?_
          exact h9
        · obtain ⟨t, et⟩ : ∃ t, j = t + 12 := ⟨j - 12, by omega⟩
          subst et
          have ejt : (t + 12 + 708) % 720 = t := by omega
          have ej12 : nI (t + 12) - 12 = nI t := by rw [jlit 12, pk_sub (by omega)]; congr 1
          have e60 : nI t / 60 = nI (t / 60) := pk_div (by omega) (by decide) (by decide)
          have hfit : (x' &&& wh = wh) ↔ p t = true := by
            rw [hwh, hp]
            by_cases hz : sN s 8 = 0
            · refine ⟨fun _ => ?_, fun _ => Or.inl hz⟩
              unfold fitP
              rw [hz]
              rfl
            · rw [hx' _ (by omega), show t + 12 + 1 = t + 13 by omega, qB_fit h12 (by omega)]
              exact ⟨fun h => h.elim (fun h => absurd h hz) id, fun h => Or.inr h⟩
          have hft : fstB p t ≤ t := fstB_le p t
          rw [show t + 12 - 12 = t by omega] at f3 f4 f5
          by_cases hpt : p t = true
          · have hy := hfit.mpr hpt
            obtain ⟨F', eF'⟩ : ∃ F', F' = upd (upd F 3 (nI (cntB p t + 1))) 4 (hrsB p t ||| (1 : Int32) <<< (nI (t / 60) &&& 31)) := ⟨_, rfl⟩
            have h9 := ih (t + 12 + 1) x' (upd F' 5 (fsI p (t + 1))) (some (.int (nI (T ((t + 12 + 708) % 720))))) (by omega) hx' (by rw [pk_un (by decide), eF', pk_un (by decide), pk_un (by decide)]; exact f2) (by rw [show t + 12 + 1 - 12 = t + 1 by omega, pk_un (by decide), eF', pk_un (by decide), pk_us]; simp only [cntB]; rw [if_pos hpt]) (by rw [show t + 12 + 1 - 12 = t + 1 by omega, pk_un (by decide), eF', pk_us]; simp only [hrsB]; rw [if_pos hpt]) (by rw [show t + 12 + 1 - 12 = t + 1 by omega, pk_us])
            have K142 : RR g RX1 cX1_findTimes 5 none "findTimes" 3 0 0 0 0 142 [some (.ref (gb g + 34)), some (.int wh), some (.int x'), some (.int (nI (t + 12) - 12)), some (.int (nI (T ((t + 12 + 708) % 720))))] [.int (fsI p (t + 1)), .ref (gb g + 34)] (sR w 34 F') Q := by
              refine pfX1_29 dX1_findTimes_142 (hw.k rfl) ?_
              rw [sR_sR, wI_sR_s]
              refine jr_iinc_3 (nI (t + 12 + 1) - 12) dX1_findTimes_145 (t12 (by omega)) (by decide) rfl ?_
              refine jr_goto 41 dX1_findTimes_148 (by decide) ?_
              exact h9
            rw [ex'] at hy K142
            rw [eF', ej12] at K142
            have f5' : F' 5 = fsI p t := by rw [eF', pk_un (by decide), pk_un (by decide)]; exact f5
            rw [eF'] at f5'
            refine jr_iald ((t + 12 + 708) % 720) (hw.k rfl) rfl ⟨hlt, by decide⟩ dX1_findTimes_65 ?_
            rw [wI_sR_n _ (by decide), hT _ hlt]
            refine jr_istore_4 dX1_findTimes_66 (by decide) rfl ?_
            refine jr_iload_n dX1_findTimes_68 rfl ?_
            refine jr_iconst (1) dX1_findTimes_69 (by decide) ?_
            refine jr_ishl dX1_findTimes_70 ?_
            refine jr_iconst (1) dX1_findTimes_71 (by decide) ?_
            refine jr_ior dX1_findTimes_72 ?_
            refine jr_aload_n dX1_findTimes_73 rfl ?_
            refine gfX1_15 36 dX1_findTimes_74 (hw.k rfl) (hw.f rfl) ?_
            refine jr_iload dX1_findTimes_77 rfl ?_
            refine jr_iconst (0) dX1_findTimes_79 (by decide) ?_
            refine jr_bipush (96) dX1_findTimes_80 (by decide) ?_
            refine jc_SNi (c_held g _ _ _ _) lkX1_88 rfl rfl (Nat.le_of_ble_eq_true rfl) (Nat.le_of_ble_eq_true rfl) dX1_findTimes_82 (fun r_82 w_82 h_82 => ?_)
            obtain ⟨rfl, rfl⟩ := h_82
            rw [hheld]
            refine jr_iald (T ((t + 12 + 708) % 720)) (hw.k rfl) rfl ⟨by omega, by decide⟩ dX1_findTimes_85 ?_
            rw [wI_sR_n _ (by decide)]
            refine jr_iand dX1_findTimes_86 ?_
            refine jr_istore_2 dX1_findTimes_87 (by decide) rfl ?_
            refine jr_iload_n dX1_findTimes_88 rfl ?_
            refine jr_if_lt 145 dX1_findTimes_89 (by decide) (fun c_89 => absurd c_89 (by rw [ej12]; exact nI_pos (by omega))) (fun c_89 => ?_)
            refine jr_iload_n dX1_findTimes_92 rfl ?_
            refine jr_iload_n dX1_findTimes_93 rfl ?_
            refine jr_iand dX1_findTimes_94 ?_
            refine jr_iload_n dX1_findTimes_95 rfl ?_
            refine jr_icmp_ne 145 dX1_findTimes_96 (by decide) (fun c_96 => absurd hy c_96) (fun c_96 => ?_)
            refine jr_aload_n dX1_findTimes_99 rfl ?_
            refine jr_dup dX1_findTimes_100 rfl ?_
            refine gfX1_22 dX1_findTimes_101 (hw.k rfl) ?_
            rw [wI_sR_s, f3]
            refine jr_iconst (1) dX1_findTimes_104 (by decide) ?_
            refine jr_iadd dX1_findTimes_105 ?_
            rw [jlit 1, nI_add]
            refine pfX1_22 dX1_findTimes_106 (hw.k rfl) ?_
            rw [sR_sR, wI_sR_s]
            refine jr_aload_n dX1_findTimes_109 rfl ?_
            refine jr_dup dX1_findTimes_110 rfl ?_
            refine gfX1_25 dX1_findTimes_111 (hw.k rfl) ?_
            rw [wI_sR_s, pk_un (by decide), f4]
            refine jr_iconst (1) dX1_findTimes_114 (by decide) ?_
            refine jr_iload_n dX1_findTimes_115 rfl ?_
            refine jr_bipush (60) dX1_findTimes_116 (by decide) ?_
            refine jr_idiv dX1_findTimes_118 (by decide) ?_
            rw [ej12, e60]
            refine jr_ishl dX1_findTimes_119 ?_
            refine jr_ior dX1_findTimes_120 ?_
            refine pfX1_25 dX1_findTimes_121 (hw.k rfl) ?_
            rw [sR_sR, wI_sR_s]
            refine jr_aload_n dX1_findTimes_124 rfl ?_
            refine jr_aload_n dX1_findTimes_125 rfl ?_
            refine gfX1_29 dX1_findTimes_126 (hw.k rfl) ?_
            rw [wI_sR_s, f5']
            refine jr_ldc (-1000000005) ckX1_28 dX1_findTimes_129 ?_
            refine jr_icmp_ne 138 dX1_findTimes_131 (by decide) (fun c_131 => ?_) (fun c_131 => ?_)
            · refine jr_aload_n dX1_findTimes_138 rfl ?_
              refine gfX1_29 dX1_findTimes_139 (hw.k rfl) ?_
              rw [wI_sR_s, f5']
              first
              | (have e9 : nI t = fsI p (t + 1) := by
                    have hge : ¬ fstB p t < t := fun hl => by
                      rw [fsI, if_pos hl] at c_131
                      have h0 := congrArg Int32.toInt c_131
                      rw [i_nI (by omega)] at h0
                      have e5 : (-1000000005 : Int32).toInt = -1000000005 := by decide
                      rw [e5] at h0
                      omega
                    have e1 : fstB p (t + 1) = t := by simp only [fstB]; rw [if_neg hge, if_pos hpt]
                    rw [fsI, e1, if_pos (by omega)]
                 rw [← e9] at K142
                 exact K142)
              | (have e9 : fsI p t = fsI p (t + 1) := by
                    have hlt2 : fstB p t < t := by
                      by_cases hl : fstB p t < t
                      · exact hl
                      · rw [fsI, if_neg hl] at c_131
                        exact absurd rfl c_131
                    have e1 : fstB p (t + 1) = fstB p t := by simp only [fstB]; rw [if_pos hlt2]
                    rw [fsI, fsI, e1, if_pos hlt2, if_pos (by omega)]
                 rw [← e9] at K142
                 exact K142)
            · refine jr_iload_n dX1_findTimes_134 rfl ?_
              refine jr_goto 142 dX1_findTimes_135 (by decide) ?_
              first
              | (have e9 : nI t = fsI p (t + 1) := by
                    have hge : ¬ fstB p t < t := fun hl => by
                      rw [fsI, if_pos hl] at c_131
                      have h0 := congrArg Int32.toInt c_131
                      rw [i_nI (by omega)] at h0
                      have e5 : (-1000000005 : Int32).toInt = -1000000005 := by decide
                      rw [e5] at h0
                      omega
                    have e1 : fstB p (t + 1) = t := by simp only [fstB]; rw [if_neg hge, if_pos hpt]
                    rw [fsI, e1, if_pos (by omega)]
                 rw [← e9] at K142
                 exact K142)
              | (have e9 : fsI p t = fsI p (t + 1) := by
                    have hlt2 : fstB p t < t := by
                      by_cases hl : fstB p t < t
                      · exact hl
                      · rw [fsI, if_neg hl] at c_131
                        exact absurd rfl c_131
                    have e1 : fstB p (t + 1) = fstB p t := by simp only [fstB]; rw [if_pos hlt2]
                    rw [fsI, fsI, e1, if_pos hlt2, if_pos (by omega)]
                 rw [← e9] at K142
                 exact K142)
          · have hy : ¬ x' &&& wh = wh := fun h => hpt (hfit.mp h)
            have ecn : cntB p (t + 1) = cntB p t := by simp only [cntB]; rw [if_neg hpt, Nat.add_zero]
            have ehr : hrsB p (t + 1) = hrsB p t := by simp only [hrsB]; rw [if_neg hpt, Int32.or_zero]
            have efs : fsI p (t + 1) = fsI p t := by
              by_cases hl : fstB p t < t
              · have e1 : fstB p (t + 1) = fstB p t := by simp only [fstB]; rw [if_pos hl]
                rw [fsI, fsI, e1, if_pos hl, if_pos (by omega)]
              · have e1 : fstB p (t + 1) = t + 1 := by simp only [fstB]; rw [if_neg hl, if_neg hpt]
                rw [fsI, fsI, e1, if_neg hl, if_neg (by omega)]
            have h9 := ih (t + 12 + 1) x' F (some (.int (nI (T ((t + 12 + 708) % 720))))) (by omega) hx' f2 (by rw [show t + 12 + 1 - 12 = t + 1 by omega, ecn]; exact f3) (by rw [show t + 12 + 1 - 12 = t + 1 by omega, ehr]; exact f4) (by rw [show t + 12 + 1 - 12 = t + 1 by omega, efs]; exact f5)
            rw [ex'] at hy h9
            refine jr_iald ((t + 12 + 708) % 720) (hw.k rfl) rfl ⟨hlt, by decide⟩ dX1_findTimes_65 ?_
            rw [wI_sR_n _ (by decide), hT _ hlt]
            refine jr_istore_4 dX1_findTimes_66 (by decide) rfl ?_
            refine jr_iload_n dX1_findTimes_68 rfl ?_
            refine jr_iconst (1) dX1_findTimes_69 (by decide) ?_
            refine jr_ishl dX1_findTimes_70 ?_
            refine jr_iconst (1) dX1_findTimes_71 (by decide) ?_
            refine jr_ior dX1_findTimes_72 ?_
            refine jr_aload_n dX1_findTimes_73 rfl ?_
            refine gfX1_15 36 dX1_findTimes_74 (hw.k rfl) (hw.f rfl) ?_
            refine jr_iload dX1_findTimes_77 rfl ?_
            refine jr_iconst (0) dX1_findTimes_79 (by decide) ?_
            refine jr_bipush (96) dX1_findTimes_80 (by decide) ?_
            refine jc_SNi (c_held g _ _ _ _) lkX1_88 rfl rfl (Nat.le_of_ble_eq_true rfl) (Nat.le_of_ble_eq_true rfl) dX1_findTimes_82 (fun r_82 w_82 h_82 => ?_)
            obtain ⟨rfl, rfl⟩ := h_82
            rw [hheld]
            refine jr_iald (T ((t + 12 + 708) % 720)) (hw.k rfl) rfl ⟨by omega, by decide⟩ dX1_findTimes_85 ?_
            rw [wI_sR_n _ (by decide)]
            refine jr_iand dX1_findTimes_86 ?_
            refine jr_istore_2 dX1_findTimes_87 (by decide) rfl ?_
            refine jr_iload_n dX1_findTimes_88 rfl ?_
            refine jr_if_lt 145 dX1_findTimes_89 (by decide) (fun c_89 => absurd c_89 (by rw [ej12]; exact nI_pos (by omega))) (fun c_89 => ?_)
            refine jr_iload_n dX1_findTimes_92 rfl ?_
            refine jr_iload_n dX1_findTimes_93 rfl ?_
            refine jr_iand dX1_findTimes_94 ?_
            refine jr_iload_n dX1_findTimes_95 rfl ?_
            refine jr_icmp_ne 145 dX1_findTimes_96 (by decide) (fun c_96 => ?_) (fun c_96 => absurd c_96 hy)
            refine jr_iinc_3 (nI (t + 12 + 1) - 12) dX1_findTimes_145 (t12 (by omega)) (by decide) rfl ?_
            refine jr_goto 41 dX1_findTimes_148 (by decide) ?_
            exact h9
      by_cases hj12 : j < 12
      · rw [show nI ((j + 708) % 720) = nI j - 12 + 720 from (by decide +kernel : ∀ j, j < 12 → nI ((j + 708) % 720) = nI j - 12 + 720) j hj12] at K65
        refine jr_iload_n dX1_findTimes_41 rfl ?_
        refine jr_sipush (720) dX1_findTimes_42 (by decide) ?_
        refine jr_icmp_ge 151 dX1_findTimes_45 (by decide) (fun c_45 => absurd c_45 (by rw [le_i, jlit 12, pk_sub_toInt (by omega) (by decide)]; show ¬ (720 : Int) ≤ _; omega)) (fun c_45 => ?_)
        refine jr_aload_n dX1_findTimes_48 rfl ?_
        refine gfX1_9 35 dX1_findTimes_49 (hw.k rfl) (hw.f rfl) ?_
        refine jr_iload_n dX1_findTimes_52 rfl ?_
        refine jr_if_ge 64 dX1_findTimes_53 (by decide) (fun c_53 => absurd c_53 (by rw [le_i, jlit 12, pk_sub_toInt (by omega) (by decide)]; show ¬ (0 : Int) ≤ _; omega)) (fun c_53 => ?_)
        refine jr_iload_n dX1_findTimes_56 rfl ?_
        refine jr_sipush (720) dX1_findTimes_57 (by decide) ?_
        refine jr_iadd dX1_findTimes_60 ?_
        refine jr_goto 65 dX1_findTimes_61 (by decide) ?_
        exact K65
      · rw [show nI ((j + 708) % 720) = nI j - 12 from (by rw [show (12 : Int32) = nI 12 from rfl, pk_sub (by omega)]; exact congrArg nI (by omega))] at K65
        refine jr_iload_n dX1_findTimes_41 rfl ?_
        refine jr_sipush (720) dX1_findTimes_42 (by decide) ?_
        refine jr_icmp_ge 151 dX1_findTimes_45 (by decide) (fun c_45 => absurd c_45 (by rw [le_i, jlit 12, pk_sub_toInt (by omega) (by decide)]; show ¬ (720 : Int) ≤ _; omega)) (fun c_45 => ?_)
        refine jr_aload_n dX1_findTimes_48 rfl ?_
        refine gfX1_9 35 dX1_findTimes_49 (hw.k rfl) (hw.f rfl) ?_
        refine jr_iload_n dX1_findTimes_52 rfl ?_
        refine jr_if_ge 64 dX1_findTimes_53 (by decide) (fun c_53 => ?_) (fun c_53 => absurd (by rw [le_i, jlit 12, pk_sub_toInt (by omega) (by decide)]; show (0 : Int) ≤ _; omega) c_53)
        refine jr_iload_n dX1_findTimes_64 rfl ?_
        exact K65
  obtain ⟨F0, eF0⟩ : ∃ F, F = upd (upd (upd (wI w 34) 3 0) 4 0) 5 (-1000000005) := ⟨_, rfl⟩
  have K35 : ∀ (wh : Int32), (∀ x, (x &&& wh = wh) ↔ (sN s 8 = 0 ∨ bt x (sN s 8 - 1) = true)) → RR g RX1 cX1_findTimes 5 none "findTimes" 3 0 0 0 0 35 [some (.ref (gb g + 34)), none, none, none, none] [.int wh] (sR w 34 F0) Q := by
    intro wh hwh
    have h9 := L wh hwh 732 0 0 F0 none rfl (fun b hb => by rw [b_0]; exact ⟨fun h => absurd h Bool.false_ne_true, fun h => absurd h.2.1 (by omega)⟩) (by rw [eF0, pk_un (by decide), pk_un (by decide), pk_un (by decide)]; exact hc) (by rw [eF0, pk_un (by decide), pk_un (by decide), pk_us]; rfl) (by rw [eF0, pk_un (by decide), pk_us]; rfl) (by rw [eF0, pk_us]; rfl)
    refine jr_istore_1 dX1_findTimes_35 (by decide) rfl ?_
    refine jr_iconst (0) dX1_findTimes_36 (by decide) ?_
    refine jr_istore_2 dX1_findTimes_37 (by decide) rfl ?_
    refine jr_bipush (-12) dX1_findTimes_38 (by decide) ?_
    refine jr_istore_3 dX1_findTimes_40 (by decide) rfl ?_
    exact h9
  have e2 : F0 2 = nI (sN s 8) := by rw [eF0, pk_un (by decide), pk_un (by decide), pk_un (by decide), hc]; exact h8.1
  by_cases hz : sN s 8 = 0
  · refine jr_aload_n dX1_findTimes_0 rfl ?_
    refine jr_iconst (0) dX1_findTimes_1 (by decide) ?_
    refine pfX1_22 dX1_findTimes_2 (hw.k rfl) ?_
    refine jr_aload_n dX1_findTimes_5 rfl ?_
    refine jr_iconst (0) dX1_findTimes_6 (by decide) ?_
    refine pfX1_25 dX1_findTimes_7 (hw.k rfl) ?_
    rw [sR_sR, wI_sR_s]
    refine jr_aload_n dX1_findTimes_10 rfl ?_
    refine jr_ldc (-1000000005) ckX1_28 dX1_findTimes_11 ?_
    refine pfX1_29 dX1_findTimes_13 (hw.k rfl) ?_
    rw [sR_sR, wI_sR_s, ← eF0]
    refine jr_aload_n dX1_findTimes_16 rfl ?_
    refine gfX1_18 dX1_findTimes_17 (hw.k rfl) ?_
    rw [wI_sR_s, e2]
    refine jr_if_ne 27 dX1_findTimes_20 (by decide) (fun c_20 => absurd (by rw [hz]; rfl) c_20) (fun c_20 => ?_)
    refine jr_iconst (0) dX1_findTimes_23 (by decide) ?_
    refine jr_goto 35 dX1_findTimes_24 (by decide) ?_
    exact K35 0 (fun x => ⟨fun _ => Or.inl hz, fun _ => Int32.and_zero⟩)
  · have h1 : 1 ≤ sN s 8 := by omega
    refine jr_aload_n dX1_findTimes_0 rfl ?_
    refine jr_iconst (0) dX1_findTimes_1 (by decide) ?_
    refine pfX1_22 dX1_findTimes_2 (hw.k rfl) ?_
    refine jr_aload_n dX1_findTimes_5 rfl ?_
    refine jr_iconst (0) dX1_findTimes_6 (by decide) ?_
    refine pfX1_25 dX1_findTimes_7 (hw.k rfl) ?_
    rw [sR_sR, wI_sR_s]
    refine jr_aload_n dX1_findTimes_10 rfl ?_
    refine jr_ldc (-1000000005) ckX1_28 dX1_findTimes_11 ?_
    refine pfX1_29 dX1_findTimes_13 (hw.k rfl) ?_
    rw [sR_sR, wI_sR_s, ← eF0]
    refine jr_aload_n dX1_findTimes_16 rfl ?_
    refine gfX1_18 dX1_findTimes_17 (hw.k rfl) ?_
    rw [wI_sR_s, e2]
    refine jr_if_ne 27 dX1_findTimes_20 (by decide) (fun c_20 => ?_) (fun c_20 => absurd c_20 (nI_ne0 h1 (by omega)))
    refine jr_iconst (1) dX1_findTimes_27 (by decide) ?_
    refine jr_aload_n dX1_findTimes_28 rfl ?_
    refine gfX1_18 dX1_findTimes_29 (hw.k rfl) ?_
    rw [wI_sR_s, e2]
    refine jr_iconst (1) dX1_findTimes_32 (by decide) ?_
    refine jr_isub dX1_findTimes_33 ?_
    rw [sub1 h1]
    refine jr_ishl dX1_findTimes_34 ?_
    exact K35 _ (fun x => by rw [wh_and h12 h1]; exact ⟨fun h => Or.inr h, fun h => h.elim (fun h => absurd h hz) id⟩)
