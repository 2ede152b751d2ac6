-- constructors of both objects
def l3 : Nat → Nat → Wd → Wd
  | 0, _, w => w
  | f + 1, i, w => l3 f (i + 1) (pR 48 i (50 + 2 * i) (f3 (50 + 2 * i) (pN w 3 0)))
def l4 : Nat → Nat → Wd → Wd
  | 0, _, w => w
  | f + 1, i, w => l4 f (i + 1) (pR 49 i (58 + 4 * i) (f4 (58 + 4 * i) (pN w 4 0)))
def l9 : Nat → Nat → Wd → Wd
  | 0, _, w => w
  | f + 1, i, w => l9 f (i + 1) (pI 82 i (-1) w)
theorem wF_f3 {a c : Nat} {w : Wd} (h : c ≠ a) (hc : c < wn w) : wF (f3 a w) c = wF w c := by
  unfold f3
  rw [wF_pR_n _ _ _ h, wF_pN_o _ (by exact hc), wF_pI, wF_pI]
theorem wF_f4 {a c : Nat} {w : Wd} (h : c ≠ a) (h2 : c ≠ a + 2) (hc : c < wn w) : wF (f4 a w) c = wF w c := by
  unfold f4
  rw [wF_pI, wF_pR_n _ _ _ h, wF_f3 h2 (by exact Nat.lt_succ_of_lt (Nat.lt_succ_of_lt hc)), wF_pN_o _ (by exact Nat.lt_succ_of_lt hc), wF_pR_n _ _ _ h]
  show wF (pN (pI a 0 0 w) 0 0) c = _
  rw [wF_pN_o _ (by exact hc), wF_pI]
def m8a (w : Wd) : Wd := (pI 0 10 0 (pR 0 9 47 (pN (pI 0 8 0 (pR 0 7 46 (pN (pR 0 6 43 (f6 43 (pN (pR 0 5 37 (f7 37 (pN (pR 0 4 34 (f1 34 (pN (pI 0 3 0 (pR 0 2 23 (f2 23 (pN (pR 0 1 12 (f2 12 (pN (pR 0 0 1 (f2 1 (pN w 2 0))) 2 0))) 2 0)))) 1 0))) 7 0))) 6 0))) 10 96))) 11 60)))
def m8 (w : Wd) : Wd := pR 0 12 49 (pN (pR 0 11 48 (pN (m8a w) 13 4)) 14 5)
def f8 (w : Wd) : Wd := l4 5 0 (l3 4 0 (m8 w))
theorem wn_m8a (w : Wd) : wn (m8a w) = wn w + 47 := by
  unfold m8a
  rw [wn_pI, wn_pR, wn_pN, wn_pI, wn_pR, wn_pN, wn_pR, wn_f6, wn_pN, wn_pR, wn_f7, wn_pN, wn_pR, wn_f1, wn_pN, wn_pI, wn_pR, wn_f2, wn_pN, wn_pR, wn_f2, wn_pN, wn_pR, wn_f2, wn_pN]
theorem wn_m8 (w : Wd) : wn (m8 w) = wn w + 49 := by
  unfold m8
  rw [wn_pR, wn_pN, wn_pR, wn_pN, wn_m8a]
theorem jK.m8a {w : Wd} {c kd n : Nat} (h : jK w c kd n) : jK (m8a w) c kd n := (((((((((((((((((((((((((h.pN 2 0).f2 1).pR 0 0 1).pN 2 0).f2 12).pR 0 1 12).pN 2 0).f2 23).pR 0 2 23).pI 0 3 0).pN 1 0).f1 34).pR 0 4 34).pN 7 0).f7 37).pR 0 5 37).pN 6 0).f6 43).pR 0 6 43).pN 10 96).pR 0 7 46).pI 0 8 0).pN 11 60).pR 0 9 47).pI 0 10 0)
theorem m8_F {w : Wd} (h : wn w = 1) : wF (m8 w) 0 11 = some 48 ∧ wF (m8 w) 0 12 = some 49 := by
  have e := wn_m8a w
  have e1 : 0 < wn (pR 0 11 48 (pN (m8a w) 13 4)) := by rw [wn_pR, wn_pN, e]; omega
  unfold m8
  exact ⟨by rw [wF_pR_s, uF_n _ _ (by decide), wF_pN_o _ e1, wF_pR_s, uF_s], by rw [wF_pR_s, uF_s]⟩
theorem c_f8 (g : Cx) (w : Wd) (hk : jK w 0 8 0) (hn : wn w = 1) : CV g yX8_init cX8_init 2 4 77 5178 [.ref (gb g + 0)] w (fun w' => w' = f8 w) := by
  refine CV.of (own := RX8) (nm := "<init>") (lv := [some (.ref (gb g + 0)), none]) (by decide) rfl rfl (Nat.le_of_ble_eq_true rfl) rfl (fun Q hQ => ?_)
  have L4 : ∀ (f i : Nat) (w1 : Wd) (rk rn : Nat), f + i = 5 → 4 * f ≤ rk → 34 * f ≤ rn → wn w1 = 58 + 4 * i → jK w1 0 8 0 → wF w1 0 12 = some 49 → jK w1 49 14 5 → Q none (l4 f i w1) → RR g RX8 cX8_init 2 none "<init>" 4 77 5178 rk rn 145 [some (.ref (gb g + 0)), some (.int (nI i))] [] w1 Q := by
    intro f
    induction f with
    | zero =>
      intro i w1 rk rn hi h1 h2 hn1 hk1 hf1 hc1 hq
      have e : i = 5 := by omega
      subst e
      refine jr_iload_n dX8_init_145 rfl ?_
      refine jr_iconst (5) dX8_init_146 (by decide) ?_
      refine jr_icmp_ge 169 dX8_init_147 (by decide) (fun c_147 => ?_) (fun c_147 => absurd (by decide) c_147)
      refine jr_vret rfl dX8_init_169 ?_
      exact hq
    | succ f ih =>
      intro i w1 rk rn hi h1 h2 hn1 hk1 hf1 hc1 hq
      have l0 : 0 < wn (pN w1 4 0) := by rw [wn_pN]; omega
      refine jr_iload_n dX8_init_145 rfl ?_
      refine jr_iconst (5) dX8_init_146 (by decide) ?_
      refine jr_icmp_ge 169 dX8_init_147 (by decide) (fun c_147 => absurd c_147 (by rw [jlit 5]; exact nI_ge (by omega) (by decide))) (fun c_147 => ?_)
      refine jr_aload_n dX8_init_150 rfl ?_
      refine gfX8_70 49 dX8_init_151 hk1 hf1 ?_
      refine jr_iload_n dX8_init_154 rfl ?_
      refine nwX8_68 dX8_init_155 ⟨by omega, by omega⟩ ?_
      rw [hn1]
      refine jr_dup dX8_init_158 rfl ?_
      refine jr_callIN (c_f4 g _ (58 + 4 * i) (jK_nw (by rw [hn1] <;> first | rfl | omega)) (by rw [wn_pN, hn1] <;> first | rfl | omega)) lkX8_75 rfl rfl (Nat.le_of_ble_eq_true rfl) (Nat.le_of_ble_eq_true rfl) ⟨by omega, by omega⟩ dX8_init_159 (fun v_159 w_159 h_159 => ?_)
      obtain ⟨rfl, rfl⟩ := h_159
      refine jr_aast_g (t0 := 4) (ci := 4) i ((hc1.pN _ _).f4 _) ((jK_nw (by rw [hn1] <;> first | rfl | omega)).f4 _) (by decide) rfl rfl rfl ⟨by omega, by decide⟩ dX8_init_162 ?_
      rw [pR_e]
      refine jr_iinc_1 (nI (i + 1)) dX8_init_163 (inc1 i) (by decide) rfl ?_
      refine jr_goto 145 dX8_init_166 (by decide) ?_
      refine ih (i + 1) _ _ _ (by omega) (by omega) (by omega) (by rw [wn_pR, wn_f4, wn_pN, hn1]; omega) (((hk1.pN _ _).f4 _).pR _ _ _) ?_ (((hc1.pN _ _).f4 _).pR _ _ _) hq
      rw [wF_pR_n _ _ _ (by decide), wF_f4 (by omega) (by omega) l0, wF_pN_o _ hk1.1]
      exact hf1
  have L3 : ∀ (f i : Nat) (w1 : Wd) (rk rn : Nat), f + i = 4 → 2 * f + 20 ≤ rk → 27 * f + 170 ≤ rn → wn w1 = 50 + 2 * i → jK w1 0 8 0 → wF w1 0 11 = some 48 → jK w1 48 13 4 → wF w1 0 12 = some 49 → jK w1 49 14 5 → Q none (l4 5 0 (l3 f i w1)) → RR g RX8 cX8_init 2 none "<init>" 4 77 5178 rk rn 119 [some (.ref (gb g + 0)), some (.int (nI i))] [] w1 Q := by
    intro f
    induction f with
    | zero =>
      intro i w1 rk rn hi h1 h2 hn1 hk1 hf0 hd1 hf1 hc1 hq
      have e : i = 4 := by omega
      subst e
      refine jr_iload_n dX8_init_119 rfl ?_
      refine jr_iconst (4) dX8_init_120 (by decide) ?_
      refine jr_icmp_ge 143 dX8_init_121 (by decide) (fun c_121 => ?_) (fun c_121 => absurd (by decide) c_121)
      refine jr_iconst (0) dX8_init_143 (by decide) ?_
      refine jr_istore_1 dX8_init_144 (by decide) rfl ?_
      exact L4 5 0 w1 _ _ rfl (by omega) (by omega) hn1 hk1 hf1 hc1 hq
    | succ f ih =>
      intro i w1 rk rn hi h1 h2 hn1 hk1 hf0 hd1 hf1 hc1 hq
      have l0 : 0 < wn (pN w1 3 0) := by rw [wn_pN]; omega
      refine jr_iload_n dX8_init_119 rfl ?_
      refine jr_iconst (4) dX8_init_120 (by decide) ?_
      refine jr_icmp_ge 143 dX8_init_121 (by decide) (fun c_121 => absurd c_121 (by rw [jlit 4]; exact nI_ge (by omega) (by decide))) (fun c_121 => ?_)
      refine jr_aload_n dX8_init_124 rfl ?_
      refine gfX8_64 48 dX8_init_125 hk1 hf0 ?_
      refine jr_iload_n dX8_init_128 rfl ?_
      refine nwX8_62 dX8_init_129 ⟨by omega, by omega⟩ ?_
      rw [hn1]
      refine jr_dup dX8_init_132 rfl ?_
      refine jr_callIN (c_f3 g _ (50 + 2 * i) (jK_nw (by rw [hn1] <;> first | rfl | omega)) (by rw [wn_pN, hn1] <;> first | rfl | omega)) lkX8_74 rfl rfl (Nat.le_of_ble_eq_true rfl) (Nat.le_of_ble_eq_true rfl) ⟨by omega, by omega⟩ dX8_init_133 (fun v_133 w_133 h_133 => ?_)
      obtain ⟨rfl, rfl⟩ := h_133
      refine jr_aast_g (t0 := 3) (ci := 3) i ((hd1.pN _ _).f3 _) ((jK_nw (by rw [hn1] <;> first | rfl | omega)).f3 _) (by decide) rfl rfl rfl ⟨by omega, by decide⟩ dX8_init_136 ?_
      rw [pR_e]
      refine jr_iinc_1 (nI (i + 1)) dX8_init_137 (inc1 i) (by decide) rfl ?_
      refine jr_goto 119 dX8_init_140 (by decide) ?_
      refine ih (i + 1) _ _ _ (by omega) (by omega) (by omega) (by rw [wn_pR, wn_f3, wn_pN, hn1]; omega) (((hk1.pN _ _).f3 _).pR _ _ _) ?_ (((hd1.pN _ _).f3 _).pR _ _ _) ?_ (((hc1.pN _ _).f3 _).pR _ _ _) hq
      · rw [wF_pR_n _ _ _ (by decide), wF_f3 (by omega) l0, wF_pN_o _ hk1.1]
        exact hf0
      · rw [wF_pR_n _ _ _ (by decide), wF_f3 (by omega) l0, wF_pN_o _ hk1.1]
        exact hf1
  have e8 : wn (m8a w) = 48 := by rw [wn_m8a, hn]
  refine jr_aload_n dX8_init_0 rfl ?_
  refine jr_objInit lkX8_3 oi_in oi_co (Nat.le_of_ble_eq_true rfl) (Nat.le_of_ble_eq_true rfl) dX8_init_1 ?_
  refine jr_aload_n dX8_init_4 rfl ?_
  refine nwX8_9 dX8_init_5 (by decide) ?_
  rw [hn]
  refine jr_dup dX8_init_8 rfl ?_
  refine jr_callI (c_f2 g _ (1) (jK_nw (by rw [hn] <;> first | rfl | omega)) (by rw [wn_pN, hn] <;> first | rfl | omega)) lkX8_11 rfl rfl (Nat.le_of_ble_eq_true rfl) (Nat.le_of_ble_eq_true rfl) (by decide) dX8_init_9 (fun v_9 w_9 h_9 => ?_)
  obtain ⟨rfl, rfl⟩ := h_9
  refine pfX8_12 dX8_init_12 ((hk.pN _ _).f2 _) ?_
  rw [pR_e]
  refine jr_aload_n dX8_init_15 rfl ?_
  refine nwX8_9 dX8_init_16 (by decide) ?_
  rw [wn_pR, wn_f2, wn_pN, hn]
  refine jr_dup dX8_init_19 rfl ?_
  refine jr_callI (c_f2 g _ (1 + 11) (jK_nw (by rw [wn_pR, wn_f2, wn_pN, hn] <;> first | rfl | omega)) (by rw [wn_pN, wn_pR, wn_f2, wn_pN, hn] <;> first | rfl | omega)) lkX8_11 rfl rfl (Nat.le_of_ble_eq_true rfl) (Nat.le_of_ble_eq_true rfl) (by decide) dX8_init_20 (fun v_20 w_20 h_20 => ?_)
  obtain ⟨rfl, rfl⟩ := h_20
  refine pfX8_16 dX8_init_23 (((((hk.pN _ _).f2 _).pR _ _ _).pN _ _).f2 _) ?_
  rw [pR_e]
  refine jr_aload_n dX8_init_26 rfl ?_
  refine nwX8_9 dX8_init_27 (by decide) ?_
  rw [wn_pR, wn_f2, wn_pN, wn_pR, wn_f2, wn_pN, hn]
  refine jr_dup dX8_init_30 rfl ?_
  refine jr_callI (c_f2 g _ (1 + 22) (jK_nw (by rw [wn_pR, wn_f2, wn_pN, wn_pR, wn_f2, wn_pN, hn] <;> first | rfl | omega)) (by rw [wn_pN, wn_pR, wn_f2, wn_pN, wn_pR, wn_f2, wn_pN, hn] <;> first | rfl | omega)) lkX8_11 rfl rfl (Nat.le_of_ble_eq_true rfl) (Nat.le_of_ble_eq_true rfl) (by decide) dX8_init_31 (fun v_31 w_31 h_31 => ?_)
  obtain ⟨rfl, rfl⟩ := h_31
  refine pfX8_19 dX8_init_34 ((((((((hk.pN _ _).f2 _).pR _ _ _).pN _ _).f2 _).pR _ _ _).pN _ _).f2 _) ?_
  rw [pR_e]
  refine jr_aload_n dX8_init_37 rfl ?_
  refine jr_iconst (0) dX8_init_38 (by decide) ?_
  refine pfX8_22 (by decide) (by decide) dX8_init_39 (((((((((hk.pN _ _).f2 _).pR _ _ _).pN _ _).f2 _).pR _ _ _).pN _ _).f2 _).pR _ _ _) ?_
  rw [pI_e]
  refine jr_aload_n dX8_init_42 rfl ?_
  refine nwX8_26 dX8_init_43 (by decide) ?_
  rw [wn_pI, wn_pR, wn_f2, wn_pN, wn_pR, wn_f2, wn_pN, wn_pR, wn_f2, wn_pN, hn]
  refine jr_dup dX8_init_46 rfl ?_
  refine jr_callIN (c_f1 g _ (1 + 33) (jK_nw (by rw [wn_pI, wn_pR, wn_f2, wn_pN, wn_pR, wn_f2, wn_pN, wn_pR, wn_f2, wn_pN, hn] <;> first | rfl | omega)) (by rw [wn_pN, wn_pI, wn_pR, wn_f2, wn_pN, wn_pR, wn_f2, wn_pN, wn_pR, wn_f2, wn_pN, hn] <;> first | rfl | omega)) lkX8_28 rfl rfl (Nat.le_of_ble_eq_true rfl) (Nat.le_of_ble_eq_true rfl) (by decide) dX8_init_47 (fun v_47 w_47 h_47 => ?_)
  obtain ⟨rfl, rfl⟩ := h_47
  refine pfX8_29 dX8_init_50 ((((((((((((hk.pN _ _).f2 _).pR _ _ _).pN _ _).f2 _).pR _ _ _).pN _ _).f2 _).pR _ _ _).pI _ _ _).pN _ _).f1 _) ?_
  rw [pR_e]
  refine jr_aload_n dX8_init_53 rfl ?_
  refine nwX8_33 dX8_init_54 (by decide) ?_
  rw [wn_pR, wn_f1, wn_pN, wn_pI, wn_pR, wn_f2, wn_pN, wn_pR, wn_f2, wn_pN, wn_pR, wn_f2, wn_pN, hn]
  refine jr_dup dX8_init_57 rfl ?_
  refine jr_callIN (c_f7 g _ (1 + 36) (jK_nw (by rw [wn_pR, wn_f1, wn_pN, wn_pI, wn_pR, wn_f2, wn_pN, wn_pR, wn_f2, wn_pN, wn_pR, wn_f2, wn_pN, hn] <;> first | rfl | omega)) (by rw [wn_pN, wn_pR, wn_f1, wn_pN, wn_pI, wn_pR, wn_f2, wn_pN, wn_pR, wn_f2, wn_pN, wn_pR, wn_f2, wn_pN, hn] <;> first | rfl | omega)) lkX8_35 rfl rfl (Nat.le_of_ble_eq_true rfl) (Nat.le_of_ble_eq_true rfl) (by decide) dX8_init_58 (fun v_58 w_58 h_58 => ?_)
  obtain ⟨rfl, rfl⟩ := h_58
  refine pfX8_36 dX8_init_61 (((((((((((((((hk.pN _ _).f2 _).pR _ _ _).pN _ _).f2 _).pR _ _ _).pN _ _).f2 _).pR _ _ _).pI _ _ _).pN _ _).f1 _).pR _ _ _).pN _ _).f7 _) ?_
  rw [pR_e]
  refine jr_aload_n dX8_init_64 rfl ?_
  refine nwX8_40 dX8_init_65 (by decide) ?_
  rw [wn_pR, wn_f7, wn_pN, wn_pR, wn_f1, wn_pN, wn_pI, wn_pR, wn_f2, wn_pN, wn_pR, wn_f2, wn_pN, wn_pR, wn_f2, wn_pN, hn]
  refine jr_dup dX8_init_68 rfl ?_
  refine jr_callIN (c_f6 g _ (1 + 42) (jK_nw (by rw [wn_pR, wn_f7, wn_pN, wn_pR, wn_f1, wn_pN, wn_pI, wn_pR, wn_f2, wn_pN, wn_pR, wn_f2, wn_pN, wn_pR, wn_f2, wn_pN, hn] <;> first | rfl | omega)) (by rw [wn_pN, wn_pR, wn_f7, wn_pN, wn_pR, wn_f1, wn_pN, wn_pI, wn_pR, wn_f2, wn_pN, wn_pR, wn_f2, wn_pN, wn_pR, wn_f2, wn_pN, hn] <;> first | rfl | omega)) lkX8_42 rfl rfl (Nat.le_of_ble_eq_true rfl) (Nat.le_of_ble_eq_true rfl) (by decide) dX8_init_69 (fun v_69 w_69 h_69 => ?_)
  obtain ⟨rfl, rfl⟩ := h_69
  refine pfX8_43 dX8_init_72 ((((((((((((((((((hk.pN _ _).f2 _).pR _ _ _).pN _ _).f2 _).pR _ _ _).pN _ _).f2 _).pR _ _ _).pI _ _ _).pN _ _).f1 _).pR _ _ _).pN _ _).f7 _).pR _ _ _).pN _ _).f6 _) ?_
  rw [pR_e]
  refine jr_aload_n dX8_init_75 rfl ?_
  refine jr_bipush (96) dX8_init_76 (by decide) ?_
  refine jr_newB 96 rfl (by decide) arB (by decide) dX8_init_78 ?_
  rw [wn_pR, wn_f6, wn_pN, wn_pR, wn_f7, wn_pN, wn_pR, wn_f1, wn_pN, wn_pI, wn_pR, wn_f2, wn_pN, wn_pR, wn_f2, wn_pN, wn_pR, wn_f2, wn_pN, hn]
  refine pfX8_47 dX8_init_80 ((((((((((((((((((((hk.pN _ _).f2 _).pR _ _ _).pN _ _).f2 _).pR _ _ _).pN _ _).f2 _).pR _ _ _).pI _ _ _).pN _ _).f1 _).pR _ _ _).pN _ _).f7 _).pR _ _ _).pN _ _).f6 _).pR _ _ _).pN _ _) ?_
  rw [pR_e]
  refine jr_aload_n dX8_init_83 rfl ?_
  refine jr_iconst (0) dX8_init_84 (by decide) ?_
  refine pfX8_51 dX8_init_85 (((((((((((((((((((((hk.pN _ _).f2 _).pR _ _ _).pN _ _).f2 _).pR _ _ _).pN _ _).f2 _).pR _ _ _).pI _ _ _).pN _ _).f1 _).pR _ _ _).pN _ _).f7 _).pR _ _ _).pN _ _).f6 _).pR _ _ _).pN _ _).pR _ _ _) ?_
  rw [pI_e]
  refine jr_aload_n dX8_init_88 rfl ?_
  refine jr_bipush (60) dX8_init_89 (by decide) ?_
  refine jr_newI 60 rfl (by decide) arI (by decide) dX8_init_91 ?_
  rw [wn_pI, wn_pR, wn_pN, wn_pR, wn_f6, wn_pN, wn_pR, wn_f7, wn_pN, wn_pR, wn_f1, wn_pN, wn_pI, wn_pR, wn_f2, wn_pN, wn_pR, wn_f2, wn_pN, wn_pR, wn_f2, wn_pN, hn]
  refine pfX8_55 dX8_init_93 (((((((((((((((((((((((hk.pN _ _).f2 _).pR _ _ _).pN _ _).f2 _).pR _ _ _).pN _ _).f2 _).pR _ _ _).pI _ _ _).pN _ _).f1 _).pR _ _ _).pN _ _).f7 _).pR _ _ _).pN _ _).f6 _).pR _ _ _).pN _ _).pR _ _ _).pI _ _ _).pN _ _) ?_
  rw [pR_e]
  refine jr_aload_n dX8_init_96 rfl ?_
  refine jr_iconst (0) dX8_init_97 (by decide) ?_
  refine pfX8_59 dX8_init_98 ((((((((((((((((((((((((hk.pN _ _).f2 _).pR _ _ _).pN _ _).f2 _).pR _ _ _).pN _ _).f2 _).pR _ _ _).pI _ _ _).pN _ _).f1 _).pR _ _ _).pN _ _).f7 _).pR _ _ _).pN _ _).f6 _).pR _ _ _).pN _ _).pR _ _ _).pI _ _ _).pN _ _).pR _ _ _) ?_
  rw [pI_e]
  refine jr_aload_n dX8_init_101 rfl ?_
  refine jr_iconst (4) dX8_init_102 (by decide) ?_
  refine naX8_62 4 rfl (by decide) dX8_init_103 (by decide) ?_
  rw [wn_pI, wn_pR, wn_pN, wn_pI, wn_pR, wn_pN, wn_pR, wn_f6, wn_pN, wn_pR, wn_f7, wn_pN, wn_pR, wn_f1, wn_pN, wn_pI, wn_pR, wn_f2, wn_pN, wn_pR, wn_f2, wn_pN, wn_pR, wn_f2, wn_pN, hn]
  refine pfX8_64 dX8_init_106 ((((((((((((((((((((((((((hk.pN _ _).f2 _).pR _ _ _).pN _ _).f2 _).pR _ _ _).pN _ _).f2 _).pR _ _ _).pI _ _ _).pN _ _).f1 _).pR _ _ _).pN _ _).f7 _).pR _ _ _).pN _ _).f6 _).pR _ _ _).pN _ _).pR _ _ _).pI _ _ _).pN _ _).pR _ _ _).pI _ _ _).pN _ _) ?_
  rw [pR_e]
  refine jr_aload_n dX8_init_109 rfl ?_
  refine jr_iconst (5) dX8_init_110 (by decide) ?_
  refine naX8_68 5 rfl (by decide) dX8_init_111 (by decide) ?_
  rw [wn_pR, wn_pN, wn_pI, wn_pR, wn_pN, wn_pI, wn_pR, wn_pN, wn_pR, wn_f6, wn_pN, wn_pR, wn_f7, wn_pN, wn_pR, wn_f1, wn_pN, wn_pI, wn_pR, wn_f2, wn_pN, wn_pR, wn_f2, wn_pN, wn_pR, wn_f2, wn_pN, hn]
  refine pfX8_70 dX8_init_114 ((((((((((((((((((((((((((((hk.pN _ _).f2 _).pR _ _ _).pN _ _).f2 _).pR _ _ _).pN _ _).f2 _).pR _ _ _).pI _ _ _).pN _ _).f1 _).pR _ _ _).pN _ _).f7 _).pR _ _ _).pN _ _).f6 _).pR _ _ _).pN _ _).pR _ _ _).pI _ _ _).pN _ _).pR _ _ _).pI _ _ _).pN _ _).pR _ _ _).pN _ _) ?_
  rw [pR_e]
  refine jr_iconst (0) dX8_init_117 (by decide) ?_
  refine jr_istore_1 dX8_init_118 (by decide) rfl ?_
  refine L3 4 0 (m8 w) _ _ rfl (by decide) (by decide) (by rw [wn_m8, hn]) ((((hk.m8a.pN 13 4).pR 0 11 48).pN 14 5).pR 0 12 49) (m8_F hn).1 ((((jK_nw e8).pR 0 11 48).pN 14 5).pR 0 12 49) (m8_F hn).2 ((jK_nw (by rw [wn_pR, wn_pN, e8])).pR 0 12 49) (hQ _ rfl)
def m9 (w : Wd) : Wd := (pR 78 31 97 (pN (pR 78 29 96 (pN (pR 78 28 95 (pN (pR 78 27 94 (pN (pR 78 26 93 (pN (pR 78 14 92 (pN (pR 78 13 91 (pN (pR 78 12 90 (pN (pR 78 11 89 (pN (pR 78 10 88 (pN (pR 78 9 87 (pN (pR 78 8 86 (pN (pR 78 7 85 (pN (pR 78 6 84 (pN (pR 78 5 83 (pN (pR 78 4 82 (pN (pR 78 2 81 (pN (pR 78 1 80 (pN (pR 78 0 79 (pN w 11 3040)) 11 3040)) 11 3040)) 11 4)) 11 4)) 11 96)) 11 5)) 11 5)) 11 5)) 11 5)) 11 120)) 11 720)) 11 40)) 11 96)) 11 128)) 11 100)) 11 24)) 11 60)) 11 60))
def f9 (w : Wd) : Wd := l9 4 0 (pI 79 6 100 (pI 79 9 1 (m9 w)))
theorem wn_m9 (w : Wd) : wn (m9 w) = wn w + 19 := by
  unfold m9
  rw [wn_pR, wn_pN, wn_pR, wn_pN, wn_pR, wn_pN, wn_pR, wn_pN, wn_pR, wn_pN, wn_pR, wn_pN, wn_pR, wn_pN, wn_pR, wn_pN, wn_pR, wn_pN, wn_pR, wn_pN, wn_pR, wn_pN, wn_pR, wn_pN, wn_pR, wn_pN, wn_pR, wn_pN, wn_pR, wn_pN, wn_pR, wn_pN, wn_pR, wn_pN, wn_pR, wn_pN, wn_pR, wn_pN]
theorem jK.m9 {w : Wd} {c kd n : Nat} (h : jK w c kd n) : jK (m9 w) c kd n := ((((((((((((((((((((((((((((((((((((((h.pN 11 3040).pR 78 0 79).pN 11 3040).pR 78 1 80).pN 11 3040).pR 78 2 81).pN 11 4).pR 78 4 82).pN 11 4).pR 78 5 83).pN 11 96).pR 78 6 84).pN 11 5).pR 78 7 85).pN 11 5).pR 78 8 86).pN 11 5).pR 78 9 87).pN 11 5).pR 78 10 88).pN 11 120).pR 78 11 89).pN 11 720).pR 78 12 90).pN 11 40).pR 78 13 91).pN 11 96).pR 78 14 92).pN 11 128).pR 78 26 93).pN 11 100).pR 78 27 94).pN 11 24).pR 78 28 95).pN 11 60).pR 78 29 96).pN 11 60).pR 78 31 97)
theorem m9_F {w : Wd} (hn : wn w = 79) : wF (m9 w) 78 0 = some 79 ∧ wF (m9 w) 78 4 = some 82 := by
  unfold m9
  refine ⟨?_, ?_⟩
  · rw [wF_pR_s, uF_n _ _ (by decide), wF_pN_o _ (by rw [wn_pR, wn_pN, wn_pR, wn_pN, wn_pR, wn_pN, wn_pR, wn_pN, wn_pR, wn_pN, wn_pR, wn_pN, wn_pR, wn_pN, wn_pR, wn_pN, wn_pR, wn_pN, wn_pR, wn_pN, wn_pR, wn_pN, wn_pR, wn_pN, wn_pR, wn_pN, wn_pR, wn_pN, wn_pR, wn_pN, wn_pR, wn_pN, wn_pR, wn_pN, wn_pR, wn_pN, hn]; decide), wF_pR_s, uF_n _ _ (by decide), wF_pN_o _ (by rw [wn_pR, wn_pN, wn_pR, wn_pN, wn_pR, wn_pN, wn_pR, wn_pN, wn_pR, wn_pN, wn_pR, wn_pN, wn_pR, wn_pN, wn_pR, wn_pN, wn_pR, wn_pN, wn_pR, wn_pN, wn_pR, wn_pN, wn_pR, wn_pN, wn_pR, wn_pN, wn_pR, wn_pN, wn_pR, wn_pN, wn_pR, wn_pN, wn_pR, wn_pN, hn]; decide), wF_pR_s, uF_n _ _ (by decide), wF_pN_o _ (by rw [wn_pR, wn_pN, wn_pR, wn_pN, wn_pR, wn_pN, wn_pR, wn_pN, wn_pR, wn_pN, wn_pR, wn_pN, wn_pR, wn_pN, wn_pR, wn_pN, wn_pR, wn_pN, wn_pR, wn_pN, wn_pR, wn_pN, wn_pR, wn_pN, wn_pR, wn_pN, wn_pR, wn_pN, wn_pR, wn_pN, wn_pR, wn_pN, hn]; decide), wF_pR_s, uF_n _ _ (by decide), wF_pN_o _ (by rw [wn_pR, wn_pN, wn_pR, wn_pN, wn_pR, wn_pN, wn_pR, wn_pN, wn_pR, wn_pN, wn_pR, wn_pN, wn_pR, wn_pN, wn_pR, wn_pN, wn_pR, wn_pN, wn_pR, wn_pN, wn_pR, wn_pN, wn_pR, wn_pN, wn_pR, wn_pN, wn_pR, wn_pN, wn_pR, wn_pN, hn]; decide), wF_pR_s, uF_n _ _ (by decide), wF_pN_o _ (by rw [wn_pR, wn_pN, wn_pR, wn_pN, wn_pR, wn_pN, wn_pR, wn_pN, wn_pR, wn_pN, wn_pR, wn_pN, wn_pR, wn_pN, wn_pR, wn_pN, wn_pR, wn_pN, wn_pR, wn_pN, wn_pR, wn_pN, wn_pR, wn_pN, wn_pR, wn_pN, wn_pR, wn_pN, hn]; decide), wF_pR_s, uF_n _ _ (by decide), wF_pN_o _ (by rw [wn_pR, wn_pN, wn_pR, wn_pN, wn_pR, wn_pN, wn_pR, wn_pN, wn_pR, wn_pN, wn_pR, wn_pN, wn_pR, wn_pN, wn_pR, wn_pN, wn_pR, wn_pN, wn_pR, wn_pN, wn_pR, wn_pN, wn_pR, wn_pN, wn_pR, wn_pN, hn]; decide), wF_pR_s, uF_n _ _ (by decide), wF_pN_o _ (by rw [wn_pR, wn_pN, wn_pR, wn_pN, wn_pR, wn_pN, wn_pR, wn_pN, wn_pR, wn_pN, wn_pR, wn_pN, wn_pR, wn_pN, wn_pR, wn_pN, wn_pR, wn_pN, wn_pR, wn_pN, wn_pR, wn_pN, wn_pR, wn_pN, hn]; decide), wF_pR_s, uF_n _ _ (by decide), wF_pN_o _ (by rw [wn_pR, wn_pN, wn_pR, wn_pN, wn_pR, wn_pN, wn_pR, wn_pN, wn_pR, wn_pN, wn_pR, wn_pN, wn_pR, wn_pN, wn_pR, wn_pN, wn_pR, wn_pN, wn_pR, wn_pN, wn_pR, wn_pN, hn]; decide), wF_pR_s, uF_n _ _ (by decide), wF_pN_o _ (by rw [wn_pR, wn_pN, wn_pR, wn_pN, wn_pR, wn_pN, wn_pR, wn_pN, wn_pR, wn_pN, wn_pR, wn_pN, wn_pR, wn_pN, wn_pR, wn_pN, wn_pR, wn_pN, wn_pR, wn_pN, hn]; decide), wF_pR_s, uF_n _ _ (by decide), wF_pN_o _ (by rw [wn_pR, wn_pN, wn_pR, wn_pN, wn_pR, wn_pN, wn_pR, wn_pN, wn_pR, wn_pN, wn_pR, wn_pN, wn_pR, wn_pN, wn_pR, wn_pN, wn_pR, wn_pN, hn]; decide), wF_pR_s, uF_n _ _ (by decide), wF_pN_o _ (by rw [wn_pR, wn_pN, wn_pR, wn_pN, wn_pR, wn_pN, wn_pR, wn_pN, wn_pR, wn_pN, wn_pR, wn_pN, wn_pR, wn_pN, wn_pR, wn_pN, hn]; decide), wF_pR_s, uF_n _ _ (by decide), wF_pN_o _ (by rw [wn_pR, wn_pN, wn_pR, wn_pN, wn_pR, wn_pN, wn_pR, wn_pN, wn_pR, wn_pN, wn_pR, wn_pN, wn_pR, wn_pN, hn]; decide), wF_pR_s, uF_n _ _ (by decide), wF_pN_o _ (by rw [wn_pR, wn_pN, wn_pR, wn_pN, wn_pR, wn_pN, wn_pR, wn_pN, wn_pR, wn_pN, wn_pR, wn_pN, hn]; decide), wF_pR_s, uF_n _ _ (by decide), wF_pN_o _ (by rw [wn_pR, wn_pN, wn_pR, wn_pN, wn_pR, wn_pN, wn_pR, wn_pN, wn_pR, wn_pN, hn]; decide), wF_pR_s, uF_n _ _ (by decide), wF_pN_o _ (by rw [wn_pR, wn_pN, wn_pR, wn_pN, wn_pR, wn_pN, wn_pR, wn_pN, hn]; decide), wF_pR_s, uF_n _ _ (by decide), wF_pN_o _ (by rw [wn_pR, wn_pN, wn_pR, wn_pN, wn_pR, wn_pN, hn]; decide), wF_pR_s, uF_n _ _ (by decide), wF_pN_o _ (by rw [wn_pR, wn_pN, wn_pR, wn_pN, hn]; decide), wF_pR_s, uF_n _ _ (by decide), wF_pN_o _ (by rw [wn_pR, wn_pN, hn]; decide), wF_pR_s, uF_s]
  · rw [wF_pR_s, uF_n _ _ (by decide), wF_pN_o _ (by rw [wn_pR, wn_pN, wn_pR, wn_pN, wn_pR, wn_pN, wn_pR, wn_pN, wn_pR, wn_pN, wn_pR, wn_pN, wn_pR, wn_pN, wn_pR, wn_pN, wn_pR, wn_pN, wn_pR, wn_pN, wn_pR, wn_pN, wn_pR, wn_pN, wn_pR, wn_pN, wn_pR, wn_pN, wn_pR, wn_pN, wn_pR, wn_pN, wn_pR, wn_pN, wn_pR, wn_pN, hn]; decide), wF_pR_s, uF_n _ _ (by decide), wF_pN_o _ (by rw [wn_pR, wn_pN, wn_pR, wn_pN, wn_pR, wn_pN, wn_pR, wn_pN, wn_pR, wn_pN, wn_pR, wn_pN, wn_pR, wn_pN, wn_pR, wn_pN, wn_pR, wn_pN, wn_pR, wn_pN, wn_pR, wn_pN, wn_pR, wn_pN, wn_pR, wn_pN, wn_pR, wn_pN, wn_pR, wn_pN, wn_pR, wn_pN, wn_pR, wn_pN, hn]; decide), wF_pR_s, uF_n _ _ (by decide), wF_pN_o _ (by rw [wn_pR, wn_pN, wn_pR, wn_pN, wn_pR, wn_pN, wn_pR, wn_pN, wn_pR, wn_pN, wn_pR, wn_pN, wn_pR, wn_pN, wn_pR, wn_pN, wn_pR, wn_pN, wn_pR, wn_pN, wn_pR, wn_pN, wn_pR, wn_pN, wn_pR, wn_pN, wn_pR, wn_pN, wn_pR, wn_pN, wn_pR, wn_pN, hn]; decide), wF_pR_s, uF_n _ _ (by decide), wF_pN_o _ (by rw [wn_pR, wn_pN, wn_pR, wn_pN, wn_pR, wn_pN, wn_pR, wn_pN, wn_pR, wn_pN, wn_pR, wn_pN, wn_pR, wn_pN, wn_pR, wn_pN, wn_pR, wn_pN, wn_pR, wn_pN, wn_pR, wn_pN, wn_pR, wn_pN, wn_pR, wn_pN, wn_pR, wn_pN, wn_pR, wn_pN, hn]; decide), wF_pR_s, uF_n _ _ (by decide), wF_pN_o _ (by rw [wn_pR, wn_pN, wn_pR, wn_pN, wn_pR, wn_pN, wn_pR, wn_pN, wn_pR, wn_pN, wn_pR, wn_pN, wn_pR, wn_pN, wn_pR, wn_pN, wn_pR, wn_pN, wn_pR, wn_pN, wn_pR, wn_pN, wn_pR, wn_pN, wn_pR, wn_pN, wn_pR, wn_pN, hn]; decide), wF_pR_s, uF_n _ _ (by decide), wF_pN_o _ (by rw [wn_pR, wn_pN, wn_pR, wn_pN, wn_pR, wn_pN, wn_pR, wn_pN, wn_pR, wn_pN, wn_pR, wn_pN, wn_pR, wn_pN, wn_pR, wn_pN, wn_pR, wn_pN, wn_pR, wn_pN, wn_pR, wn_pN, wn_pR, wn_pN, wn_pR, wn_pN, hn]; decide), wF_pR_s, uF_n _ _ (by decide), wF_pN_o _ (by rw [wn_pR, wn_pN, wn_pR, wn_pN, wn_pR, wn_pN, wn_pR, wn_pN, wn_pR, wn_pN, wn_pR, wn_pN, wn_pR, wn_pN, wn_pR, wn_pN, wn_pR, wn_pN, wn_pR, wn_pN, wn_pR, wn_pN, wn_pR, wn_pN, hn]; decide), wF_pR_s, uF_n _ _ (by decide), wF_pN_o _ (by rw [wn_pR, wn_pN, wn_pR, wn_pN, wn_pR, wn_pN, wn_pR, wn_pN, wn_pR, wn_pN, wn_pR, wn_pN, wn_pR, wn_pN, wn_pR, wn_pN, wn_pR, wn_pN, wn_pR, wn_pN, wn_pR, wn_pN, hn]; decide), wF_pR_s, uF_n _ _ (by decide), wF_pN_o _ (by rw [wn_pR, wn_pN, wn_pR, wn_pN, wn_pR, wn_pN, wn_pR, wn_pN, wn_pR, wn_pN, wn_pR, wn_pN, wn_pR, wn_pN, wn_pR, wn_pN, wn_pR, wn_pN, wn_pR, wn_pN, hn]; decide), wF_pR_s, uF_n _ _ (by decide), wF_pN_o _ (by rw [wn_pR, wn_pN, wn_pR, wn_pN, wn_pR, wn_pN, wn_pR, wn_pN, wn_pR, wn_pN, wn_pR, wn_pN, wn_pR, wn_pN, wn_pR, wn_pN, wn_pR, wn_pN, hn]; decide), wF_pR_s, uF_n _ _ (by decide), wF_pN_o _ (by rw [wn_pR, wn_pN, wn_pR, wn_pN, wn_pR, wn_pN, wn_pR, wn_pN, wn_pR, wn_pN, wn_pR, wn_pN, wn_pR, wn_pN, wn_pR, wn_pN, hn]; decide), wF_pR_s, uF_n _ _ (by decide), wF_pN_o _ (by rw [wn_pR, wn_pN, wn_pR, wn_pN, wn_pR, wn_pN, wn_pR, wn_pN, wn_pR, wn_pN, wn_pR, wn_pN, wn_pR, wn_pN, hn]; decide), wF_pR_s, uF_n _ _ (by decide), wF_pN_o _ (by rw [wn_pR, wn_pN, wn_pR, wn_pN, wn_pR, wn_pN, wn_pR, wn_pN, wn_pR, wn_pN, wn_pR, wn_pN, hn]; decide), wF_pR_s, uF_n _ _ (by decide), wF_pN_o _ (by rw [wn_pR, wn_pN, wn_pR, wn_pN, wn_pR, wn_pN, wn_pR, wn_pN, wn_pR, wn_pN, hn]; decide), wF_pR_s, uF_n _ _ (by decide), wF_pN_o _ (by rw [wn_pR, wn_pN, wn_pR, wn_pN, wn_pR, wn_pN, wn_pR, wn_pN, hn]; decide), wF_pR_s, uF_s]
theorem m9_s {w : Wd} (hn : wn w = 79) : jK (m9 w) 79 11 3040 := ((((((((((((((((((((((((((((((((((((((jK_nw hn).pR 78 0 79).pN 11 3040).pR 78 1 80).pN 11 3040).pR 78 2 81).pN 11 4).pR 78 4 82).pN 11 4).pR 78 5 83).pN 11 96).pR 78 6 84).pN 11 5).pR 78 7 85).pN 11 5).pR 78 8 86).pN 11 5).pR 78 9 87).pN 11 5).pR 78 10 88).pN 11 120).pR 78 11 89).pN 11 720).pR 78 12 90).pN 11 40).pR 78 13 91).pN 11 96).pR 78 14 92).pN 11 128).pR 78 26 93).pN 11 100).pR 78 27 94).pN 11 24).pR 78 28 95).pN 11 60).pR 78 29 96).pN 11 60).pR 78 31 97)
theorem m9_t {w : Wd} (hn : wn w = 79) : jK (m9 w) 82 11 4 := ((((((((((((((((((((((((((((((((jK_nw (by rw [wn_pR, wn_pN, wn_pR, wn_pN, wn_pR, wn_pN, hn])).pR 78 4 82).pN 11 4).pR 78 5 83).pN 11 96).pR 78 6 84).pN 11 5).pR 78 7 85).pN 11 5).pR 78 8 86).pN 11 5).pR 78 9 87).pN 11 5).pR 78 10 88).pN 11 120).pR 78 11 89).pN 11 720).pR 78 12 90).pN 11 40).pR 78 13 91).pN 11 96).pR 78 14 92).pN 11 128).pR 78 26 93).pN 11 100).pR 78 27 94).pN 11 24).pR 78 28 95).pN 11 60).pR 78 29 96).pN 11 60).pR 78 31 97)
theorem c_f9 (g : Cx) (w : Wd) (hk : jK w 78 9 0) (hn : wn w = 79) : CV g yX9_init cX9_init 2 2 19 10592 [.ref (gb g + 78)] w (fun w' => w' = f9 w) := by
  refine CV.of (own := RX9) (nm := "<init>") (lv := [some (.ref (gb g + 78)), none]) (by decide) rfl rfl (Nat.le_of_ble_eq_true rfl) rfl (fun Q hQ => ?_)
  have L : ∀ (f i : Nat) (w1 : Wd) (rk rn : Nat), f + i = 4 → jK w1 78 9 0 → wF w1 78 4 = some 82 → jK w1 82 11 4 → Q none (l9 f i w1) → RR g RX9 cX9_init 2 none "<init>" 2 19 10592 rk rn 174 [some (.ref (gb g + 78)), some (.int (nI i))] [] w1 Q := by
    intro f
    induction f with
    | zero =>
      intro i w1 rk rn hi hk1 hf1 ht1 hq
      have e : i = 4 := by omega
      subst e
      refine jr_iload_n dX9_init_174 rfl ?_
      refine jr_iconst (4) dX9_init_175 (by decide) ?_
      refine jr_icmp_ge 192 dX9_init_176 (by decide) (fun c_176 => ?_) (fun c_176 => absurd (by decide) c_176)
      refine jr_vret rfl dX9_init_192 ?_
      exact hq
    | succ f ih =>
      intro i w1 rk rn hi hk1 hf1 ht1 hq
      refine jr_iload_n dX9_init_174 rfl ?_
      refine jr_iconst (4) dX9_init_175 (by decide) ?_
      refine jr_icmp_ge 192 dX9_init_176 (by decide) (fun c_176 => absurd c_176 (by rw [jlit 4]; exact nI_ge (by omega) (by decide))) (fun c_176 => ?_)
      refine jr_aload_n dX9_init_179 rfl ?_
      refine gfX9_19 82 dX9_init_180 hk1 hf1 ?_
      refine jr_iload_n dX9_init_183 rfl ?_
      refine jr_iconst (-1) dX9_init_184 (by decide) ?_
      refine jr_iast i ht1 rfl ⟨by omega, by decide⟩ dX9_init_185 ?_
      rw [pI_e]
      refine jr_iinc_1 (nI (i + 1)) dX9_init_186 (inc1 i) (by decide) rfl ?_
      refine jr_goto 174 dX9_init_189 (by decide) ?_
      exact ih (i + 1) _ _ _ (by omega) (hk1.pI _ _ _) hf1 (ht1.pI _ _ _) hq
  have K : ∀ (w1 : Wd) (rk rn : Nat), jK w1 78 9 0 → wF w1 78 0 = some 79 → jK w1 79 11 3040 → wF w1 78 4 = some 82 → jK w1 82 11 4 → Q none (l9 4 0 (pI 79 6 100 (pI 79 9 1 w1))) → RR g RX9 cX9_init 2 none "<init>" 2 19 10592 rk rn 155 [some (.ref (gb g + 78)), none] [] w1 Q := by
    intro w1 rk rn hk1 hf0 hs1 hf1 ht1 hq
    refine jr_aload_n dX9_init_155 rfl ?_
    refine gfX9_7 79 dX9_init_156 hk1 hf0 ?_
    refine jr_bipush (9) dX9_init_159 (by decide) ?_
    refine jr_iconst (1) dX9_init_161 (by decide) ?_
    refine jr_iast 9 hs1 rfl (by decide) dX9_init_162 ?_
    rw [pI_e]
    refine jr_aload_n dX9_init_163 rfl ?_
    refine gfX9_7 79 dX9_init_164 (hk1.pI _ _ _) (by exact hf0) ?_
    refine jr_bipush (6) dX9_init_167 (by decide) ?_
    refine jr_bipush (100) dX9_init_169 (by decide) ?_
    refine jr_iast 6 (hs1.pI _ _ _) rfl (by decide) dX9_init_171 ?_
    rw [pI_e]
    refine jr_iconst (0) dX9_init_172 (by decide) ?_
    refine jr_istore_1 dX9_init_173 (by decide) rfl ?_
    exact L 4 0 _ _ _ rfl ((hk1.pI _ _ _).pI _ _ _) hf1 ((ht1.pI _ _ _).pI _ _ _) hq
  refine jr_aload_n dX9_init_0 rfl ?_
  refine jr_objInit lkX9_1 oi_in oi_co (Nat.le_of_ble_eq_true rfl) (Nat.le_of_ble_eq_true rfl) dX9_init_1 ?_
  refine jr_aload_n dX9_init_4 rfl ?_
  refine jr_sipush (3040) dX9_init_5 (by decide) ?_
  refine jr_newI 3040 rfl (by decide) arI (by decide) dX9_init_8 ?_
  rw [hn]
  refine pfX9_7 dX9_init_10 (hk.pN _ _) ?_
  rw [pR_e]
  refine jr_aload_n dX9_init_13 rfl ?_
  refine jr_sipush (3040) dX9_init_14 (by decide) ?_
  refine jr_newI 3040 rfl (by decide) arI (by decide) dX9_init_17 ?_
  rw [wn_pR, wn_pN, hn]
  refine pfX9_13 dX9_init_19 (((hk.pN _ _).pR _ _ _).pN _ _) ?_
  rw [pR_e]
  refine jr_aload_n dX9_init_22 rfl ?_
  refine jr_sipush (3040) dX9_init_23 (by decide) ?_
  refine jr_newI 3040 rfl (by decide) arI (by decide) dX9_init_26 ?_
  rw [wn_pR, wn_pN, wn_pR, wn_pN, hn]
  refine pfX9_16 dX9_init_28 (((((hk.pN _ _).pR _ _ _).pN _ _).pR _ _ _).pN _ _) ?_
  rw [pR_e]
  refine jr_aload_n dX9_init_31 rfl ?_
  refine jr_iconst (4) dX9_init_32 (by decide) ?_
  refine jr_newI 4 rfl (by decide) arI (by decide) dX9_init_33 ?_
  rw [wn_pR, wn_pN, wn_pR, wn_pN, wn_pR, wn_pN, hn]
  refine pfX9_19 dX9_init_35 (((((((hk.pN _ _).pR _ _ _).pN _ _).pR _ _ _).pN _ _).pR _ _ _).pN _ _) ?_
  rw [pR_e]
  refine jr_aload_n dX9_init_38 rfl ?_
  refine jr_iconst (4) dX9_init_39 (by decide) ?_
  refine jr_newI 4 rfl (by decide) arI (by decide) dX9_init_40 ?_
  rw [wn_pR, wn_pN, wn_pR, wn_pN, wn_pR, wn_pN, wn_pR, wn_pN, hn]
  refine pfX9_22 dX9_init_42 (((((((((hk.pN _ _).pR _ _ _).pN _ _).pR _ _ _).pN _ _).pR _ _ _).pN _ _).pR _ _ _).pN _ _) ?_
  rw [pR_e]
  refine jr_aload_n dX9_init_45 rfl ?_
  refine jr_bipush (96) dX9_init_46 (by decide) ?_
  refine jr_newI 96 rfl (by decide) arI (by decide) dX9_init_48 ?_
  rw [wn_pR, wn_pN, wn_pR, wn_pN, wn_pR, wn_pN, wn_pR, wn_pN, wn_pR, wn_pN, hn]
  refine pfX9_25 dX9_init_50 (((((((((((hk.pN _ _).pR _ _ _).pN _ _).pR _ _ _).pN _ _).pR _ _ _).pN _ _).pR _ _ _).pN _ _).pR _ _ _).pN _ _) ?_
  rw [pR_e]
  refine jr_aload_n dX9_init_53 rfl ?_
  refine jr_iconst (5) dX9_init_54 (by decide) ?_
  refine jr_newI 5 rfl (by decide) arI (by decide) dX9_init_55 ?_
  rw [wn_pR, wn_pN, wn_pR, wn_pN, wn_pR, wn_pN, wn_pR, wn_pN, wn_pR, wn_pN, wn_pR, wn_pN, hn]
  refine pfX9_28 dX9_init_57 (((((((((((((hk.pN _ _).pR _ _ _).pN _ _).pR _ _ _).pN _ _).pR _ _ _).pN _ _).pR _ _ _).pN _ _).pR _ _ _).pN _ _).pR _ _ _).pN _ _) ?_
  rw [pR_e]
  refine jr_aload_n dX9_init_60 rfl ?_
  refine jr_iconst (5) dX9_init_61 (by decide) ?_
  refine jr_newI 5 rfl (by decide) arI (by decide) dX9_init_62 ?_
  rw [wn_pR, wn_pN, wn_pR, wn_pN, wn_pR, wn_pN, wn_pR, wn_pN, wn_pR, wn_pN, wn_pR, wn_pN, wn_pR, wn_pN, hn]
  refine pfX9_31 dX9_init_64 (((((((((((((((hk.pN _ _).pR _ _ _).pN _ _).pR _ _ _).pN _ _).pR _ _ _).pN _ _).pR _ _ _).pN _ _).pR _ _ _).pN _ _).pR _ _ _).pN _ _).pR _ _ _).pN _ _) ?_
  rw [pR_e]
  refine jr_aload_n dX9_init_67 rfl ?_
  refine jr_iconst (5) dX9_init_68 (by decide) ?_
  refine jr_newI 5 rfl (by decide) arI (by decide) dX9_init_69 ?_
  rw [wn_pR, wn_pN, wn_pR, wn_pN, wn_pR, wn_pN, wn_pR, wn_pN, wn_pR, wn_pN, wn_pR, wn_pN, wn_pR, wn_pN, wn_pR, wn_pN, hn]
  refine pfX9_34 dX9_init_71 (((((((((((((((((hk.pN _ _).pR _ _ _).pN _ _).pR _ _ _).pN _ _).pR _ _ _).pN _ _).pR _ _ _).pN _ _).pR _ _ _).pN _ _).pR _ _ _).pN _ _).pR _ _ _).pN _ _).pR _ _ _).pN _ _) ?_
  rw [pR_e]
  refine jr_aload_n dX9_init_74 rfl ?_
  refine jr_iconst (5) dX9_init_75 (by decide) ?_
  refine jr_newI 5 rfl (by decide) arI (by decide) dX9_init_76 ?_
  rw [wn_pR, wn_pN, wn_pR, wn_pN, wn_pR, wn_pN, wn_pR, wn_pN, wn_pR, wn_pN, wn_pR, wn_pN, wn_pR, wn_pN, wn_pR, wn_pN, wn_pR, wn_pN, hn]
  refine pfX9_37 dX9_init_78 (((((((((((((((((((hk.pN _ _).pR _ _ _).pN _ _).pR _ _ _).pN _ _).pR _ _ _).pN _ _).pR _ _ _).pN _ _).pR _ _ _).pN _ _).pR _ _ _).pN _ _).pR _ _ _).pN _ _).pR _ _ _).pN _ _).pR _ _ _).pN _ _) ?_
  rw [pR_e]
  refine jr_aload_n dX9_init_81 rfl ?_
  refine jr_bipush (120) dX9_init_82 (by decide) ?_
  refine jr_newI 120 rfl (by decide) arI (by decide) dX9_init_84 ?_
  rw [wn_pR, wn_pN, wn_pR, wn_pN, wn_pR, wn_pN, wn_pR, wn_pN, wn_pR, wn_pN, wn_pR, wn_pN, wn_pR, wn_pN, wn_pR, wn_pN, wn_pR, wn_pN, wn_pR, wn_pN, hn]
  refine pfX9_40 dX9_init_86 (((((((((((((((((((((hk.pN _ _).pR _ _ _).pN _ _).pR _ _ _).pN _ _).pR _ _ _).pN _ _).pR _ _ _).pN _ _).pR _ _ _).pN _ _).pR _ _ _).pN _ _).pR _ _ _).pN _ _).pR _ _ _).pN _ _).pR _ _ _).pN _ _).pR _ _ _).pN _ _) ?_
  rw [pR_e]
  refine jr_aload_n dX9_init_89 rfl ?_
  refine jr_sipush (720) dX9_init_90 (by decide) ?_
  refine jr_newI 720 rfl (by decide) arI (by decide) dX9_init_93 ?_
  rw [wn_pR, wn_pN, wn_pR, wn_pN, wn_pR, wn_pN, wn_pR, wn_pN, wn_pR, wn_pN, wn_pR, wn_pN, wn_pR, wn_pN, wn_pR, wn_pN, wn_pR, wn_pN, wn_pR, wn_pN, wn_pR, wn_pN, hn]
  refine pfX9_43 dX9_init_95 (((((((((((((((((((((((hk.pN _ _).pR _ _ _).pN _ _).pR _ _ _).pN _ _).pR _ _ _).pN _ _).pR _ _ _).pN _ _).pR _ _ _).pN _ _).pR _ _ _).pN _ _).pR _ _ _).pN _ _).pR _ _ _).pN _ _).pR _ _ _).pN _ _).pR _ _ _).pN _ _).pR _ _ _).pN _ _) ?_
  rw [pR_e]
  refine jr_aload_n dX9_init_98 rfl ?_
  refine jr_bipush (40) dX9_init_99 (by decide) ?_
  refine jr_newI 40 rfl (by decide) arI (by decide) dX9_init_101 ?_
  rw [wn_pR, wn_pN, wn_pR, wn_pN, wn_pR, wn_pN, wn_pR, wn_pN, wn_pR, wn_pN, wn_pR, wn_pN, wn_pR, wn_pN, wn_pR, wn_pN, wn_pR, wn_pN, wn_pR, wn_pN, wn_pR, wn_pN, wn_pR, wn_pN, hn]
  refine pfX9_46 dX9_init_103 (((((((((((((((((((((((((hk.pN _ _).pR _ _ _).pN _ _).pR _ _ _).pN _ _).pR _ _ _).pN _ _).pR _ _ _).pN _ _).pR _ _ _).pN _ _).pR _ _ _).pN _ _).pR _ _ _).pN _ _).pR _ _ _).pN _ _).pR _ _ _).pN _ _).pR _ _ _).pN _ _).pR _ _ _).pN _ _).pR _ _ _).pN _ _) ?_
  rw [pR_e]
  refine jr_aload_n dX9_init_106 rfl ?_
  refine jr_bipush (96) dX9_init_107 (by decide) ?_
  refine jr_newI 96 rfl (by decide) arI (by decide) dX9_init_109 ?_
  rw [wn_pR, wn_pN, wn_pR, wn_pN, wn_pR, wn_pN, wn_pR, wn_pN, wn_pR, wn_pN, wn_pR, wn_pN, wn_pR, wn_pN, wn_pR, wn_pN, wn_pR, wn_pN, wn_pR, wn_pN, wn_pR, wn_pN, wn_pR, wn_pN, wn_pR, wn_pN, hn]
  refine pfX9_49 dX9_init_111 (((((((((((((((((((((((((((hk.pN _ _).pR _ _ _).pN _ _).pR _ _ _).pN _ _).pR _ _ _).pN _ _).pR _ _ _).pN _ _).pR _ _ _).pN _ _).pR _ _ _).pN _ _).pR _ _ _).pN _ _).pR _ _ _).pN _ _).pR _ _ _).pN _ _).pR _ _ _).pN _ _).pR _ _ _).pN _ _).pR _ _ _).pN _ _).pR _ _ _).pN _ _) ?_
  rw [pR_e]
  refine jr_aload_n dX9_init_114 rfl ?_
  refine jr_sipush (128) dX9_init_115 (by decide) ?_
  refine jr_newI 128 rfl (by decide) arI (by decide) dX9_init_118 ?_
  rw [wn_pR, wn_pN, wn_pR, wn_pN, wn_pR, wn_pN, wn_pR, wn_pN, wn_pR, wn_pN, wn_pR, wn_pN, wn_pR, wn_pN, wn_pR, wn_pN, wn_pR, wn_pN, wn_pR, wn_pN, wn_pR, wn_pN, wn_pR, wn_pN, wn_pR, wn_pN, wn_pR, wn_pN, hn]
  refine pfX9_52 dX9_init_120 (((((((((((((((((((((((((((((hk.pN _ _).pR _ _ _).pN _ _).pR _ _ _).pN _ _).pR _ _ _).pN _ _).pR _ _ _).pN _ _).pR _ _ _).pN _ _).pR _ _ _).pN _ _).pR _ _ _).pN _ _).pR _ _ _).pN _ _).pR _ _ _).pN _ _).pR _ _ _).pN _ _).pR _ _ _).pN _ _).pR _ _ _).pN _ _).pR _ _ _).pN _ _).pR _ _ _).pN _ _) ?_
  rw [pR_e]
  refine jr_aload_n dX9_init_123 rfl ?_
  refine jr_bipush (100) dX9_init_124 (by decide) ?_
  refine jr_newI 100 rfl (by decide) arI (by decide) dX9_init_126 ?_
  rw [wn_pR, wn_pN, wn_pR, wn_pN, wn_pR, wn_pN, wn_pR, wn_pN, wn_pR, wn_pN, wn_pR, wn_pN, wn_pR, wn_pN, wn_pR, wn_pN, wn_pR, wn_pN, wn_pR, wn_pN, wn_pR, wn_pN, wn_pR, wn_pN, wn_pR, wn_pN, wn_pR, wn_pN, wn_pR, wn_pN, hn]
  refine pfX9_55 dX9_init_128 (((((((((((((((((((((((((((((((hk.pN _ _).pR _ _ _).pN _ _).pR _ _ _).pN _ _).pR _ _ _).pN _ _).pR _ _ _).pN _ _).pR _ _ _).pN _ _).pR _ _ _).pN _ _).pR _ _ _).pN _ _).pR _ _ _).pN _ _).pR _ _ _).pN _ _).pR _ _ _).pN _ _).pR _ _ _).pN _ _).pR _ _ _).pN _ _).pR _ _ _).pN _ _).pR _ _ _).pN _ _).pR _ _ _).pN _ _) ?_
  rw [pR_e]
  refine jr_aload_n dX9_init_131 rfl ?_
  refine jr_bipush (24) dX9_init_132 (by decide) ?_
  refine jr_newI 24 rfl (by decide) arI (by decide) dX9_init_134 ?_
  rw [wn_pR, wn_pN, wn_pR, wn_pN, wn_pR, wn_pN, wn_pR, wn_pN, wn_pR, wn_pN, wn_pR, wn_pN, wn_pR, wn_pN, wn_pR, wn_pN, wn_pR, wn_pN, wn_pR, wn_pN, wn_pR, wn_pN, wn_pR, wn_pN, wn_pR, wn_pN, wn_pR, wn_pN, wn_pR, wn_pN, wn_pR, wn_pN, hn]
  refine pfX9_58 dX9_init_136 (((((((((((((((((((((((((((((((((hk.pN _ _).pR _ _ _).pN _ _).pR _ _ _).pN _ _).pR _ _ _).pN _ _).pR _ _ _).pN _ _).pR _ _ _).pN _ _).pR _ _ _).pN _ _).pR _ _ _).pN _ _).pR _ _ _).pN _ _).pR _ _ _).pN _ _).pR _ _ _).pN _ _).pR _ _ _).pN _ _).pR _ _ _).pN _ _).pR _ _ _).pN _ _).pR _ _ _).pN _ _).pR _ _ _).pN _ _).pR _ _ _).pN _ _) ?_
  rw [pR_e]
  refine jr_aload_n dX9_init_139 rfl ?_
  refine jr_bipush (60) dX9_init_140 (by decide) ?_
  refine jr_newI 60 rfl (by decide) arI (by decide) dX9_init_142 ?_
  rw [wn_pR, wn_pN, wn_pR, wn_pN, wn_pR, wn_pN, wn_pR, wn_pN, wn_pR, wn_pN, wn_pR, wn_pN, wn_pR, wn_pN, wn_pR, wn_pN, wn_pR, wn_pN, wn_pR, wn_pN, wn_pR, wn_pN, wn_pR, wn_pN, wn_pR, wn_pN, wn_pR, wn_pN, wn_pR, wn_pN, wn_pR, wn_pN, wn_pR, wn_pN, hn]
  refine pfX9_61 dX9_init_144 (((((((((((((((((((((((((((((((((((hk.pN _ _).pR _ _ _).pN _ _).pR _ _ _).pN _ _).pR _ _ _).pN _ _).pR _ _ _).pN _ _).pR _ _ _).pN _ _).pR _ _ _).pN _ _).pR _ _ _).pN _ _).pR _ _ _).pN _ _).pR _ _ _).pN _ _).pR _ _ _).pN _ _).pR _ _ _).pN _ _).pR _ _ _).pN _ _).pR _ _ _).pN _ _).pR _ _ _).pN _ _).pR _ _ _).pN _ _).pR _ _ _).pN _ _).pR _ _ _).pN _ _) ?_
  rw [pR_e]
  refine jr_aload_n dX9_init_147 rfl ?_
  refine jr_bipush (60) dX9_init_148 (by decide) ?_
  refine jr_newI 60 rfl (by decide) arI (by decide) dX9_init_150 ?_
  rw [wn_pR, wn_pN, wn_pR, wn_pN, wn_pR, wn_pN, wn_pR, wn_pN, wn_pR, wn_pN, wn_pR, wn_pN, wn_pR, wn_pN, wn_pR, wn_pN, wn_pR, wn_pN, wn_pR, wn_pN, wn_pR, wn_pN, wn_pR, wn_pN, wn_pR, wn_pN, wn_pR, wn_pN, wn_pR, wn_pN, wn_pR, wn_pN, wn_pR, wn_pN, wn_pR, wn_pN, hn]
  refine pfX9_64 dX9_init_152 (((((((((((((((((((((((((((((((((((((hk.pN _ _).pR _ _ _).pN _ _).pR _ _ _).pN _ _).pR _ _ _).pN _ _).pR _ _ _).pN _ _).pR _ _ _).pN _ _).pR _ _ _).pN _ _).pR _ _ _).pN _ _).pR _ _ _).pN _ _).pR _ _ _).pN _ _).pR _ _ _).pN _ _).pR _ _ _).pN _ _).pR _ _ _).pN _ _).pR _ _ _).pN _ _).pR _ _ _).pN _ _).pR _ _ _).pN _ _).pR _ _ _).pN _ _).pR _ _ _).pN _ _).pR _ _ _).pN _ _) ?_
  rw [pR_e]
  exact K (m9 w) _ _ hk.m9 (m9_F hn).1 (m9_s hn) (m9_F hn).2 (m9_t hn) (hQ _ rfl)
