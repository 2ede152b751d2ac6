-- constructors of the class's parts
/-- an int of a cell is put; a reference of a cell is put -/
def pI (a k : Nat) (v : Int32) (w : Wd) : Wd := sR w a (upd (wI w a) k v)
def pR (a k b : Nat) (w : Wd) : Wd := sP w a (uF (wF w a) k (some b))
theorem pI_e {w : Wd} {a k : Nat} {v : Int32} : sR w a (upd (wI w a) k v) = pI a k v w := rfl
theorem pR_e {w : Wd} {a k b : Nat} : sP w a (uF (wF w a) k (some b)) = pR a k b w := rfl
theorem wn_pI (a k : Nat) (v : Int32) (w : Wd) : wn (pI a k v w) = wn w := rfl
theorem wn_pR (a k b : Nat) (w : Wd) : wn (pR a k b w) = wn w := rfl
theorem wF_pI (a k : Nat) (v : Int32) (w : Wd) : wF (pI a k v w) = wF w := rfl
theorem wF_pR_s (a k b : Nat) (w : Wd) : wF (pR a k b w) a = uF (wF w a) k (some b) := wF_sP_s _ _ _
theorem wF_pR_n {a i : Nat} (k b : Nat) (w : Wd) (h : i ≠ a) : wF (pR a k b w) i = wF w i := wF_sP_n _ h _
theorem jK.pI {w : Wd} {c kd n : Nat} (h : jK w c kd n) (a k : Nat) (v : Int32) : jK (pI a k v w) c kd n := h
theorem jK.pR {w : Wd} {c kd n : Nat} (h : jK w c kd n) (a k b : Nat) : jK (pR a k b w) c kd n := h
theorem jK_nw {w : Wd} {c kd n : Nat} (h : wn w = c) : jK (pN w kd n) c kd n := by
  subst h
  exact jK_new w kd n
def f0 (a : Nat) (w : Wd) : Wd := pI a 2 0 (pI a 1 0 (pI a 0 0 w))
def f3 (a : Nat) (w : Wd) : Wd := pR a 2 (a + 1) (pN (pI a 1 0 (pI a 0 (-1) w)) 11 24)
def f4 (a : Nat) (w : Wd) : Wd := pI a 3 0 (pR a 2 (a + 2) (f3 (a + 2) (pN (pR a 1 (a + 1) (f0 (a + 1) (pN (pI a 0 0 w) 0 0))) 3 0)))
def f1 (a : Nat) (w : Wd) : Wd := pI a 5 (-1000000005) (pI a 4 0 (pI a 3 0 (pI a 2 0 (pR a 1 (a + 2) (pN (pR a 0 (a + 1) (pN w 11 720)) 11 97)))))
def f6 (a : Nat) (w : Wd) : Wd := pI a 8 0 (pR a 7 (a + 2) (pN (pI a 6 0 (pI a 5 0 (pI a 4 0 (pI a 3 0 (pI a 2 0 (pI a 1 0 (pR a 0 (a + 1) (pN w 10 0)))))))) 11 96))
def f7 (a : Nat) (w : Wd) : Wd := pI a 5 0 (pR a 4 (a + 5) (pN (pR a 3 (a + 4) (pN (pR a 2 (a + 3) (pN (pR a 1 (a + 2) (pN (pR a 0 (a + 1) (pN w 11 720)) 11 720)) 11 720)) 11 720)) 11 720))
def l2 (a : Nat) : Nat → Nat → Wd → Wd
  | 0, _, w => w
  | f + 1, i, w => l2 a f (i + 1) (pR (a + 1) i (a + 5 + i) (f0 (a + 5 + i) (pN w 0 0)))
def m2b (a : Nat) (w : Wd) : Wd := pR a 13 (a + 4) (pI (a + 4) 2 (-1000000005) (pI (a + 4) 1 (-1000000005) (pI (a + 4) 0 (-1000000005) (pN (pI a 12 0 (pR a 11 (a + 3) (pN (pI a 10 0 (pR a 9 (a + 2) (pN (pI a 8 1 (pI a 7 0 (pI a 6 0 (pI a 5 0 (pI a 4 0 (pI a 3 0 (pI a 2 100 (pI a 1 0 (pR a 0 (a + 1) w))))))))) 11 12))) 15 14))) 11 3))))
def m2 (a : Nat) (w : Wd) : Wd := m2b a (pN w 12 6)
def f2 (a : Nat) (w : Wd) : Wd := l2 a 6 0 (m2 a w)
theorem wn_f0 (a : Nat) (w : Wd) : wn (f0 a w) = wn w := rfl
theorem wn_f3 (a : Nat) (w : Wd) : wn (f3 a w) = wn w + 1 := rfl
theorem wn_f4 (a : Nat) (w : Wd) : wn (f4 a w) = wn w + 3 := rfl
theorem wn_f1 (a : Nat) (w : Wd) : wn (f1 a w) = wn w + 2 := rfl
theorem wn_f6 (a : Nat) (w : Wd) : wn (f6 a w) = wn w + 2 := rfl
theorem wn_f7 (a : Nat) (w : Wd) : wn (f7 a w) = wn w + 5 := rfl
theorem wn_m2 (a : Nat) (w : Wd) : wn (m2 a w) = wn w + 4 := rfl
theorem wn_l2 (a : Nat) : ∀ f i w, wn (l2 a f i w) = wn w + f
  | 0, _, _ => rfl
  | f + 1, i, w => by
    show wn (l2 a f (i + 1) _) = _
    rw [wn_l2 a f (i + 1), wn_pR, wn_f0, wn_pN]
    omega
theorem wn_f2 (a : Nat) (w : Wd) : wn (f2 a w) = wn w + 10 := by
  unfold f2
  rw [wn_l2, wn_m2]
section
variable {w : Wd} {c kd n : Nat}
theorem jK.f0 (h : jK w c kd n) (a : Nat) : jK (f0 a w) c kd n := h
theorem jK.f3 (h : jK w c kd n) (a : Nat) : jK (f3 a w) c kd n := (((h.pI a 0 (-1)).pI a 1 0).pN 11 24).pR a 2 (a + 1)
theorem jK.f4 (h : jK w c kd n) (a : Nat) : jK (f4 a w) c kd n := (((((((h.pI a 0 0).pN 0 0).f0 (a + 1)).pR a 1 (a + 1)).pN 3 0).f3 (a + 2)).pR a 2 (a + 2)).pI a 3 0
theorem jK.f1 (h : jK w c kd n) (a : Nat) : jK (f1 a w) c kd n := (((((((h.pN 11 720).pR a 0 (a + 1)).pN 11 97).pR a 1 (a + 2)).pI a 2 0).pI a 3 0).pI a 4 0).pI a 5 (-1000000005)
theorem jK.f6 (h : jK w c kd n) (a : Nat) : jK (f6 a w) c kd n := ((((((((((h.pN 10 0).pR a 0 (a + 1)).pI a 1 0).pI a 2 0).pI a 3 0).pI a 4 0).pI a 5 0).pI a 6 0).pN 11 96).pR a 7 (a + 2)).pI a 8 0
theorem jK.f7 (h : jK w c kd n) (a : Nat) : jK (f7 a w) c kd n := ((((((((((h.pN 11 720).pR a 0 (a + 1)).pN 11 720).pR a 1 (a + 2)).pN 11 720).pR a 2 (a + 3)).pN 11 720).pR a 3 (a + 4)).pN 11 720).pR a 4 (a + 5)).pI a 5 0
theorem jK.l2 (a : Nat) : ∀ (f i : Nat) (w : Wd), jK w c kd n → jK (l2 a f i w) c kd n
  | 0, _, _, h => h
  | f + 1, i, w, h => jK.l2 a f (i + 1) _ (((h.pN 0 0).f0 (a + 5 + i)).pR (a + 1) i (a + 5 + i))
theorem jK.m2b (h : jK w c kd n) (a : Nat) : jK (m2b a w) c kd n := ((((((((((((((((((((h.pR a 0 (a + 1)).pI a 1 0).pI a 2 100).pI a 3 0).pI a 4 0).pI a 5 0).pI a 6 0).pI a 7 0).pI a 8 1).pN 11 12).pR a 9 (a + 2)).pI a 10 0).pN 15 14).pR a 11 (a + 3)).pI a 12 0).pN 11 3).pI (a + 4) 0 (-1000000005)).pI (a + 4) 1 (-1000000005)).pI (a + 4) 2 (-1000000005)).pR a 13 (a + 4))
theorem jK.m2 (h : jK w c kd n) (a : Nat) : jK (m2 a w) c kd n := (h.pN 12 6).m2b a
theorem m2b_F {a : Nat} (ha : a < wn w) : wF (m2b a w) a 0 = some (a + 1) := by
  unfold m2b
  rw [wF_pR_s, uF_n _ _ (by decide), wF_pI, wF_pI, wF_pI, wF_pN_o _ (by exact Nat.lt_succ_of_lt (Nat.lt_succ_of_lt ha)), wF_pI, wF_pR_s, uF_n _ _ (by decide), wF_pN_o _ (by exact Nat.lt_succ_of_lt ha), wF_pI, wF_pR_s, uF_n _ _ (by decide), wF_pN_o _ (by exact ha), wF_pI, wF_pI, wF_pI, wF_pI, wF_pI, wF_pI, wF_pI, wF_pI, wF_pR_s, uF_s]
theorem jK.f2 (h : jK w c kd n) (a : Nat) : jK (f2 a w) c kd n := jK.l2 a 6 0 _ (h.m2 a)
end
theorem c_f0 (g : Cx) (w : Wd) (a : Nat) (hk : jK w a 0 0) : CV g yX0_init cX0_init 1 2 0 0 [.ref (gb g + a)] w (fun w' => w' = f0 a w) := by
  refine CV.of (own := RX0) (nm := "<init>") (lv := [some (.ref (gb g + a))]) (by decide) rfl rfl (Nat.le_of_ble_eq_true rfl) rfl (fun Q hQ => ?_)
  refine jr_aload_n dX0_init_0 rfl ?_
  refine jr_objInit lkX0_3 oi_in oi_co (Nat.le_of_ble_eq_true rfl) (Nat.le_of_ble_eq_true rfl) dX0_init_1 ?_
  refine jr_aload_n dX0_init_4 rfl ?_
  refine jr_iconst (0) dX0_init_5 (by decide) ?_
  refine pfX0_9 dX0_init_6 hk ?_
  rw [pI_e]
  refine jr_aload_n dX0_init_9 rfl ?_
  refine jr_iconst (0) dX0_init_10 (by decide) ?_
  refine pfX0_15 dX0_init_11 (hk.pI _ _ _) ?_
  rw [pI_e]
  refine jr_aload_n dX0_init_14 rfl ?_
  refine jr_iconst (0) dX0_init_15 (by decide) ?_
  refine pfX0_18 dX0_init_16 ((hk.pI _ _ _).pI _ _ _) ?_
  rw [pI_e]
  refine jr_vret rfl dX0_init_19 ?_
  exact hQ _ rfl
theorem c_f3 (g : Cx) (w : Wd) (a : Nat) (hk : jK w a 3 0) (hn : wn w = a + 1) : CV g yX3_init cX3_init 1 2 1 24 [.ref (gb g + a)] w (fun w' => w' = f3 a w) := by
  refine CV.of (own := RX3) (nm := "<init>") (lv := [some (.ref (gb g + a))]) (by decide) rfl rfl (Nat.le_of_ble_eq_true rfl) rfl (fun Q hQ => ?_)
  refine jr_aload_n dX3_init_0 rfl ?_
  refine jr_objInit lkX3_3 oi_in oi_co (Nat.le_of_ble_eq_true rfl) (Nat.le_of_ble_eq_true rfl) dX3_init_1 ?_
  refine jr_aload_n dX3_init_4 rfl ?_
  refine jr_iconst (-1) dX3_init_5 (by decide) ?_
  refine pfX3_9 dX3_init_6 hk ?_
  rw [pI_e]
  refine jr_aload_n dX3_init_9 rfl ?_
  refine jr_iconst (0) dX3_init_10 (by decide) ?_
  refine pfX3_15 dX3_init_11 (hk.pI _ _ _) ?_
  rw [pI_e]
  refine jr_aload_n dX3_init_14 rfl ?_
  refine jr_bipush (24) dX3_init_15 (by decide) ?_
  refine jr_newI 24 rfl (by decide) arI (by decide) dX3_init_17 ?_
  simp only [wn_pI, wn_pR, wn_pN, wn_f0, wn_f1, wn_f2, wn_f3, wn_f4, wn_f6, wn_f7, hn]
  refine pfX3_18 dX3_init_19 (((hk.pI _ _ _).pI _ _ _).pN _ _) ?_
  rw [pR_e]
  refine jr_vret rfl dX3_init_22 ?_
  exact hQ _ rfl
theorem c_f4 (g : Cx) (w : Wd) (a : Nat) (hk : jK w a 4 0) (hn : wn w = a + 1) : CV g yX4_init cX4_init 1 3 3 30 [.ref (gb g + a)] w (fun w' => w' = f4 a w) := by
  refine CV.of (own := RX4) (nm := "<init>") (lv := [some (.ref (gb g + a))]) (by decide) rfl rfl (Nat.le_of_ble_eq_true rfl) rfl (fun Q hQ => ?_)
  refine jr_aload_n dX4_init_0 rfl ?_
  refine jr_objInit lkX4_3 oi_in oi_co (Nat.le_of_ble_eq_true rfl) (Nat.le_of_ble_eq_true rfl) dX4_init_1 ?_
  refine jr_aload_n dX4_init_4 rfl ?_
  refine jr_iconst (0) dX4_init_5 (by decide) ?_
  refine pfX4_9 dX4_init_6 hk ?_
  rw [pI_e]
  refine jr_aload_n dX4_init_9 rfl ?_
  refine nwX4_15 dX4_init_10 (by decide) ?_
  simp only [wn_pI, wn_pR, wn_pN, wn_f0, wn_f1, wn_f2, wn_f3, wn_f4, wn_f6, wn_f7, hn]
  refine jr_dup dX4_init_13 rfl ?_
  refine jr_callIN (c_f0 g _ (a + 1) (jK_nw (by simp only [wn_pI, wn_pR, wn_pN, wn_f0, wn_f1, wn_f2, wn_f3, wn_f4, wn_f6, wn_f7, hn]))) lkX4_17 rfl rfl (Nat.le_of_ble_eq_true rfl) (Nat.le_of_ble_eq_true rfl) (by decide) dX4_init_14 (fun v_14 w_14 h_14 => ?_)
  obtain ⟨rfl, rfl⟩ := h_14
  refine pfX4_18 dX4_init_17 (((hk.pI _ _ _).pN _ _).f0 _) ?_
  rw [pR_e]
  refine jr_aload_n dX4_init_20 rfl ?_
  refine nwX4_22 dX4_init_21 (by decide) ?_
  simp only [wn_pI, wn_pR, wn_pN, wn_f0, wn_f1, wn_f2, wn_f3, wn_f4, wn_f6, wn_f7, hn]
  refine jr_dup dX4_init_24 rfl ?_
  refine jr_callIN (c_f3 g _ (a + 1 + 1) (jK_nw (by simp only [wn_pI, wn_pR, wn_pN, wn_f0, wn_f1, wn_f2, wn_f3, wn_f4, wn_f6, wn_f7, hn])) (by simp only [wn_pI, wn_pR, wn_pN, wn_f0, wn_f1, wn_f2, wn_f3, wn_f4, wn_f6, wn_f7, hn])) lkX4_24 rfl rfl (Nat.le_of_ble_eq_true rfl) (Nat.le_of_ble_eq_true rfl) (by decide) dX4_init_25 (fun v_25 w_25 h_25 => ?_)
  obtain ⟨rfl, rfl⟩ := h_25
  refine pfX4_25 dX4_init_28 ((((((hk.pI _ _ _).pN _ _).f0 _).pR _ _ _).pN _ _).f3 _) ?_
  rw [pR_e]
  refine jr_aload_n dX4_init_31 rfl ?_
  refine jr_iconst (0) dX4_init_32 (by decide) ?_
  refine pfX4_29 dX4_init_33 (((((((hk.pI _ _ _).pN _ _).f0 _).pR _ _ _).pN _ _).f3 _).pR _ _ _) ?_
  rw [pI_e]
  refine jr_vret rfl dX4_init_36 ?_
  exact hQ _ rfl
theorem c_f1 (g : Cx) (w : Wd) (a : Nat) (hk : jK w a 1 0) (hn : wn w = a + 1) : CV g yX1_init cX1_init 1 2 2 817 [.ref (gb g + a)] w (fun w' => w' = f1 a w) := by
  refine CV.of (own := RX1) (nm := "<init>") (lv := [some (.ref (gb g + a))]) (by decide) rfl rfl (Nat.le_of_ble_eq_true rfl) rfl (fun Q hQ => ?_)
  refine jr_aload_n dX1_init_0 rfl ?_
  refine jr_objInit lkX1_3 oi_in oi_co (Nat.le_of_ble_eq_true rfl) (Nat.le_of_ble_eq_true rfl) dX1_init_1 ?_
  refine jr_aload_n dX1_init_4 rfl ?_
  refine jr_sipush (720) dX1_init_5 (by decide) ?_
  refine jr_newI 720 rfl (by decide) arI (by decide) dX1_init_8 ?_
  simp only [wn_pI, wn_pR, wn_pN, wn_f0, wn_f1, wn_f2, wn_f3, wn_f4, wn_f6, wn_f7, hn]
  refine pfX1_9 dX1_init_10 (hk.pN _ _) ?_
  rw [pR_e]
  refine jr_aload_n dX1_init_13 rfl ?_
  refine jr_bipush (97) dX1_init_14 (by decide) ?_
  refine jr_newI 97 rfl (by decide) arI (by decide) dX1_init_16 ?_
  simp only [wn_pI, wn_pR, wn_pN, wn_f0, wn_f1, wn_f2, wn_f3, wn_f4, wn_f6, wn_f7, hn]
  refine pfX1_15 dX1_init_18 (((hk.pN _ _).pR _ _ _).pN _ _) ?_
  rw [pR_e]
  refine jr_aload_n dX1_init_21 rfl ?_
  refine jr_iconst (0) dX1_init_22 (by decide) ?_
  refine pfX1_18 dX1_init_23 ((((hk.pN _ _).pR _ _ _).pN _ _).pR _ _ _) ?_
  rw [pI_e]
  refine jr_aload_n dX1_init_26 rfl ?_
  refine jr_iconst (0) dX1_init_27 (by decide) ?_
  refine pfX1_22 dX1_init_28 (((((hk.pN _ _).pR _ _ _).pN _ _).pR _ _ _).pI _ _ _) ?_
  rw [pI_e]
  refine jr_aload_n dX1_init_31 rfl ?_
  refine jr_iconst (0) dX1_init_32 (by decide) ?_
  refine pfX1_25 dX1_init_33 ((((((hk.pN _ _).pR _ _ _).pN _ _).pR _ _ _).pI _ _ _).pI _ _ _) ?_
  rw [pI_e]
  refine jr_aload_n dX1_init_36 rfl ?_
  refine jr_ldc (-1000000005) ckX1_28 dX1_init_37 ?_
  refine pfX1_29 dX1_init_39 (((((((hk.pN _ _).pR _ _ _).pN _ _).pR _ _ _).pI _ _ _).pI _ _ _).pI _ _ _) ?_
  rw [pI_e]
  refine jr_vret rfl dX1_init_42 ?_
  exact hQ _ rfl
theorem c_f6 (g : Cx) (w : Wd) (a : Nat) (hk : jK w a 6 0) (hn : wn w = a + 1) : CV g yX6_init cX6_init 1 2 2 96 [.ref (gb g + a)] w (fun w' => w' = f6 a w) := by
  refine CV.of (own := RX6) (nm := "<init>") (lv := [some (.ref (gb g + a))]) (by decide) rfl rfl (Nat.le_of_ble_eq_true rfl) rfl (fun Q hQ => ?_)
  refine jr_aload_n dX6_init_0 rfl ?_
  refine jr_objInit lkX6_3 oi_in oi_co (Nat.le_of_ble_eq_true rfl) (Nat.le_of_ble_eq_true rfl) dX6_init_1 ?_
  refine jr_aload_n dX6_init_4 rfl ?_
  refine jr_iconst (0) dX6_init_5 (by decide) ?_
  refine jr_newB 0 rfl (by decide) arB (by decide) dX6_init_6 ?_
  simp only [wn_pI, wn_pR, wn_pN, wn_f0, wn_f1, wn_f2, wn_f3, wn_f4, wn_f6, wn_f7, hn]
  refine pfX6_9 dX6_init_8 (hk.pN _ _) ?_
  rw [pR_e]
  refine jr_aload_n dX6_init_11 rfl ?_
  refine jr_iconst (0) dX6_init_12 (by decide) ?_
  refine pfX6_15 dX6_init_13 ((hk.pN _ _).pR _ _ _) ?_
  rw [pI_e]
  refine jr_aload_n dX6_init_16 rfl ?_
  refine jr_iconst (0) dX6_init_17 (by decide) ?_
  refine pfX6_19 dX6_init_18 (((hk.pN _ _).pR _ _ _).pI _ _ _) ?_
  rw [pI_e]
  refine jr_aload_n dX6_init_21 rfl ?_
  refine jr_iconst (0) dX6_init_22 (by decide) ?_
  refine pfX6_22 dX6_init_23 ((((hk.pN _ _).pR _ _ _).pI _ _ _).pI _ _ _) ?_
  rw [pI_e]
  refine jr_aload_n dX6_init_26 rfl ?_
  refine jr_iconst (0) dX6_init_27 (by decide) ?_
  refine pfX6_25 dX6_init_28 (((((hk.pN _ _).pR _ _ _).pI _ _ _).pI _ _ _).pI _ _ _) ?_
  rw [pI_e]
  refine jr_aload_n dX6_init_31 rfl ?_
  refine jr_iconst (0) dX6_init_32 (by decide) ?_
  refine pfX6_28 dX6_init_33 ((((((hk.pN _ _).pR _ _ _).pI _ _ _).pI _ _ _).pI _ _ _).pI _ _ _) ?_
  rw [pI_e]
  refine jr_aload_n dX6_init_36 rfl ?_
  refine jr_iconst (0) dX6_init_37 (by decide) ?_
  refine pfX6_31 dX6_init_38 (((((((hk.pN _ _).pR _ _ _).pI _ _ _).pI _ _ _).pI _ _ _).pI _ _ _).pI _ _ _) ?_
  rw [pI_e]
  refine jr_aload_n dX6_init_41 rfl ?_
  refine jr_bipush (96) dX6_init_42 (by decide) ?_
  refine jr_newI 96 rfl (by decide) arI (by decide) dX6_init_44 ?_
  simp only [wn_pI, wn_pR, wn_pN, wn_f0, wn_f1, wn_f2, wn_f3, wn_f4, wn_f6, wn_f7, hn]
  refine pfX6_34 dX6_init_46 (((((((((hk.pN _ _).pR _ _ _).pI _ _ _).pI _ _ _).pI _ _ _).pI _ _ _).pI _ _ _).pI _ _ _).pN _ _) ?_
  rw [pR_e]
  refine jr_aload_n dX6_init_49 rfl ?_
  refine jr_iconst (0) dX6_init_50 (by decide) ?_
  refine pfX6_38 dX6_init_51 ((((((((((hk.pN _ _).pR _ _ _).pI _ _ _).pI _ _ _).pI _ _ _).pI _ _ _).pI _ _ _).pI _ _ _).pN _ _).pR _ _ _) ?_
  rw [pI_e]
  refine jr_vret rfl dX6_init_54 ?_
  exact hQ _ rfl
theorem c_f7 (g : Cx) (w : Wd) (a : Nat) (hk : jK w a 7 0) (hn : wn w = a + 1) : CV g yX7_init cX7_init 1 2 5 3600 [.ref (gb g + a)] w (fun w' => w' = f7 a w) := by
  refine CV.of (own := RX7) (nm := "<init>") (lv := [some (.ref (gb g + a))]) (by decide) rfl rfl (Nat.le_of_ble_eq_true rfl) rfl (fun Q hQ => ?_)
  refine jr_aload_n dX7_init_0 rfl ?_
  refine jr_objInit lkX7_3 oi_in oi_co (Nat.le_of_ble_eq_true rfl) (Nat.le_of_ble_eq_true rfl) dX7_init_1 ?_
  refine jr_aload_n dX7_init_4 rfl ?_
  refine jr_sipush (720) dX7_init_5 (by decide) ?_
  refine jr_newI 720 rfl (by decide) arI (by decide) dX7_init_8 ?_
  simp only [wn_pI, wn_pR, wn_pN, wn_f0, wn_f1, wn_f2, wn_f3, wn_f4, wn_f6, wn_f7, hn]
  refine pfX7_9 dX7_init_10 (hk.pN _ _) ?_
  rw [pR_e]
  refine jr_aload_n dX7_init_13 rfl ?_
  refine jr_sipush (720) dX7_init_14 (by decide) ?_
  refine jr_newI 720 rfl (by decide) arI (by decide) dX7_init_17 ?_
  simp only [wn_pI, wn_pR, wn_pN, wn_f0, wn_f1, wn_f2, wn_f3, wn_f4, wn_f6, wn_f7, hn]
  refine pfX7_15 dX7_init_19 (((hk.pN _ _).pR _ _ _).pN _ _) ?_
  rw [pR_e]
  refine jr_aload_n dX7_init_22 rfl ?_
  refine jr_sipush (720) dX7_init_23 (by decide) ?_
  refine jr_newI 720 rfl (by decide) arI (by decide) dX7_init_26 ?_
  simp only [wn_pI, wn_pR, wn_pN, wn_f0, wn_f1, wn_f2, wn_f3, wn_f4, wn_f6, wn_f7, hn]
  refine pfX7_18 dX7_init_28 (((((hk.pN _ _).pR _ _ _).pN _ _).pR _ _ _).pN _ _) ?_
  rw [pR_e]
  refine jr_aload_n dX7_init_31 rfl ?_
  refine jr_sipush (720) dX7_init_32 (by decide) ?_
  refine jr_newI 720 rfl (by decide) arI (by decide) dX7_init_35 ?_
  simp only [wn_pI, wn_pR, wn_pN, wn_f0, wn_f1, wn_f2, wn_f3, wn_f4, wn_f6, wn_f7, hn]
  refine pfX7_21 dX7_init_37 (((((((hk.pN _ _).pR _ _ _).pN _ _).pR _ _ _).pN _ _).pR _ _ _).pN _ _) ?_
  rw [pR_e]
  refine jr_aload_n dX7_init_40 rfl ?_
  refine jr_sipush (720) dX7_init_41 (by decide) ?_
  refine jr_newI 720 rfl (by decide) arI (by decide) dX7_init_44 ?_
  simp only [wn_pI, wn_pR, wn_pN, wn_f0, wn_f1, wn_f2, wn_f3, wn_f4, wn_f6, wn_f7, hn]
  refine pfX7_24 dX7_init_46 (((((((((hk.pN _ _).pR _ _ _).pN _ _).pR _ _ _).pN _ _).pR _ _ _).pN _ _).pR _ _ _).pN _ _) ?_
  rw [pR_e]
  refine jr_aload_n dX7_init_49 rfl ?_
  refine jr_iconst (0) dX7_init_50 (by decide) ?_
  refine pfX7_27 dX7_init_51 ((((((((((hk.pN _ _).pR _ _ _).pN _ _).pR _ _ _).pN _ _).pR _ _ _).pN _ _).pR _ _ _).pN _ _).pR _ _ _) ?_
  rw [pI_e]
  refine jr_vret rfl dX7_init_54 ?_
  exact hQ _ rfl
theorem c_f2 (g : Cx) (w : Wd) (a : Nat) (hk : jK w a 2 0) (hn : wn w = a + 1) : CV g yX2_init cX2_init 2 3 10 53 [.ref (gb g + a)] w (fun w' => w' = f2 a w) := by
  refine CV.of (own := RX2) (nm := "<init>") (lv := [some (.ref (gb g + a)), none]) (by decide) rfl rfl (Nat.le_of_ble_eq_true rfl) rfl (fun Q hQ => ?_)
  have L : ∀ (f i : Nat) (w1 : Wd) (rk rn : Nat), f + i = 6 → f ≤ rk → 3 * f ≤ rn → wn w1 = a + 5 + i → jK w1 a 2 0 → wF w1 a 0 = some (a + 1) → jK w1 (a + 1) 12 6 → Q none (l2 a f i w1) → RR g RX2 cX2_init 2 none "<init>" 3 10 53 rk rn 105 [some (.ref (gb g + a)), some (.int (nI i))] [] w1 Q := by
    intro f
    induction f with
    | zero =>
      intro i w1 rk rn hi h1 h2 hn1 hk1 hf1 hc1 hq
      have e : i = 6 := by omega
      subst e
      refine jr_iload_n dX2_init_105 rfl ?_
      refine jr_bipush (6) dX2_init_106 (by decide) ?_
      refine jr_icmp_ge 130 dX2_init_108 (by decide) (fun c_108 => ?_) (fun c_108 => absurd (by decide) c_108)
      refine jr_vret rfl dX2_init_130 ?_
      exact hq
    | succ f ih =>
      intro i w1 rk rn hi h1 h2 hn1 hk1 hf1 hc1 hq
      refine jr_iload_n dX2_init_105 rfl ?_
      refine jr_bipush (6) dX2_init_106 (by decide) ?_
      refine jr_icmp_ge 130 dX2_init_108 (by decide) (fun c_108 => absurd c_108 (by rw [jlit 6]; exact nI_ge (by omega) (by decide))) (fun c_108 => ?_)
      refine jr_aload_n dX2_init_111 rfl ?_
      refine gfX2_11 (a + 1) dX2_init_112 hk1 hf1 ?_
      refine jr_iload_n dX2_init_115 rfl ?_
      refine nwX2_9 dX2_init_116 ⟨by omega, by omega⟩ ?_
      simp only [wn_pI, wn_pR, wn_pN, wn_f0, wn_f1, wn_f2, wn_f3, wn_f4, wn_f6, wn_f7, hn1]
      refine jr_dup dX2_init_119 rfl ?_
      refine jr_callIN (c_f0 g _ (a + 5 + i) (jK_nw (by simp only [wn_pI, wn_pR, wn_pN, wn_f0, wn_f1, wn_f2, wn_f3, wn_f4, wn_f6, wn_f7, hn1]))) lkX2_62 rfl rfl (Nat.le_of_ble_eq_true rfl) (Nat.le_of_ble_eq_true rfl) ⟨Nat.zero_le _, Nat.zero_le _⟩ dX2_init_120 (fun v_120 w_120 h_120 => ?_)
      obtain ⟨rfl, rfl⟩ := h_120
      refine jr_aast_g (t0 := 2) (ci := 0) i ((hc1.pN _ _).f0 _) ((jK_nw (by simp only [wn_pI, wn_pR, wn_pN, wn_f0, wn_f1, wn_f2, wn_f3, wn_f4, wn_f6, wn_f7, hn1])).f0 _) (by decide) rfl rfl rfl ⟨by omega, by decide⟩ dX2_init_123 ?_
      rw [pR_e]
      refine jr_iinc_1 (nI (i + 1)) dX2_init_124 (inc1 i) (by decide) rfl ?_
      refine jr_goto 105 dX2_init_127 (by decide) ?_
      refine ih (i + 1) _ _ _ (by omega) (by omega) (by omega) (by simp only [wn_pR, wn_f0, wn_pN, hn1]; omega) (((hk1.pN _ _).f0 _).pR _ _ _) ?_ (((hc1.pN _ _).f0 _).pR _ _ _) hq
      rw [wF_pR_n _ _ _ (by omega)]
      show wF (pN w1 0 0) a 0 = _
      rw [wF_pN_o _ hk1.1]
      exact hf1
  refine jr_aload_n dX2_init_0 rfl ?_
  refine jr_objInit lkX2_3 oi_in oi_co (Nat.le_of_ble_eq_true rfl) (Nat.le_of_ble_eq_true rfl) dX2_init_1 ?_
  refine jr_aload_n dX2_init_4 rfl ?_
  refine jr_bipush (6) dX2_init_5 (by decide) ?_
  refine naX2_9 6 rfl (by decide) dX2_init_7 (by decide) ?_
  simp only [wn_pI, wn_pR, wn_pN, wn_f0, wn_f1, wn_f2, wn_f3, wn_f4, wn_f6, wn_f7, hn]
  refine pfX2_11 dX2_init_10 (hk.pN _ _) ?_
  rw [pR_e]
  refine jr_aload_n dX2_init_13 rfl ?_
  refine jr_iconst (0) dX2_init_14 (by decide) ?_
  refine pfX2_17 dX2_init_15 ((hk.pN _ _).pR _ _ _) ?_
  rw [pI_e]
  refine jr_aload_n dX2_init_18 rfl ?_
  refine jr_bipush (100) dX2_init_19 (by decide) ?_
  refine pfX2_21 dX2_init_21 (((hk.pN _ _).pR _ _ _).pI _ _ _) ?_
  rw [pI_e]
  refine jr_aload_n dX2_init_24 rfl ?_
  refine jr_iconst (0) dX2_init_25 (by decide) ?_
  refine pfX2_24 dX2_init_26 ((((hk.pN _ _).pR _ _ _).pI _ _ _).pI _ _ _) ?_
  rw [pI_e]
  refine jr_aload_n dX2_init_29 rfl ?_
  refine jr_iconst (0) dX2_init_30 (by decide) ?_
  refine pfX2_27 dX2_init_31 (((((hk.pN _ _).pR _ _ _).pI _ _ _).pI _ _ _).pI _ _ _) ?_
  rw [pI_e]
  refine jr_aload_n dX2_init_34 rfl ?_
  refine jr_iconst (0) dX2_init_35 (by decide) ?_
  refine pfX2_30 dX2_init_36 ((((((hk.pN _ _).pR _ _ _).pI _ _ _).pI _ _ _).pI _ _ _).pI _ _ _) ?_
  rw [pI_e]
  refine jr_aload_n dX2_init_39 rfl ?_
  refine jr_iconst (0) dX2_init_40 (by decide) ?_
  refine pfX2_33 dX2_init_41 (((((((hk.pN _ _).pR _ _ _).pI _ _ _).pI _ _ _).pI _ _ _).pI _ _ _).pI _ _ _) ?_
  rw [pI_e]
  refine jr_aload_n dX2_init_44 rfl ?_
  refine jr_iconst (0) dX2_init_45 (by decide) ?_
  refine pfX2_36 dX2_init_46 ((((((((hk.pN _ _).pR _ _ _).pI _ _ _).pI _ _ _).pI _ _ _).pI _ _ _).pI _ _ _).pI _ _ _) ?_
  rw [pI_e]
  refine jr_aload_n dX2_init_49 rfl ?_
  refine jr_iconst (1) dX2_init_50 (by decide) ?_
  refine pfX2_39 dX2_init_51 (((((((((hk.pN _ _).pR _ _ _).pI _ _ _).pI _ _ _).pI _ _ _).pI _ _ _).pI _ _ _).pI _ _ _).pI _ _ _) ?_
  rw [pI_e]
  refine jr_aload_n dX2_init_54 rfl ?_
  refine jr_bipush (12) dX2_init_55 (by decide) ?_
  refine jr_newI 12 rfl (by decide) arI (by decide) dX2_init_57 ?_
  simp only [wn_pI, wn_pR, wn_pN, wn_f0, wn_f1, wn_f2, wn_f3, wn_f4, wn_f6, wn_f7, hn]
  refine pfX2_42 dX2_init_59 (((((((((((hk.pN _ _).pR _ _ _).pI _ _ _).pI _ _ _).pI _ _ _).pI _ _ _).pI _ _ _).pI _ _ _).pI _ _ _).pI _ _ _).pN _ _) ?_
  rw [pR_e]
  refine jr_aload_n dX2_init_62 rfl ?_
  refine jr_iconst (0) dX2_init_63 (by decide) ?_
  refine pfX2_46 dX2_init_64 ((((((((((((hk.pN _ _).pR _ _ _).pI _ _ _).pI _ _ _).pI _ _ _).pI _ _ _).pI _ _ _).pI _ _ _).pI _ _ _).pI _ _ _).pN _ _).pR _ _ _) ?_
  rw [pI_e]
  refine jr_aload_n dX2_init_67 rfl ?_
  refine jr_bipush (14) dX2_init_68 (by decide) ?_
  refine naX2_49 14 rfl (by decide) dX2_init_70 (by decide) ?_
  simp only [wn_pI, wn_pR, wn_pN, wn_f0, wn_f1, wn_f2, wn_f3, wn_f4, wn_f6, wn_f7, hn]
  refine pfX2_51 dX2_init_73 ((((((((((((((hk.pN _ _).pR _ _ _).pI _ _ _).pI _ _ _).pI _ _ _).pI _ _ _).pI _ _ _).pI _ _ _).pI _ _ _).pI _ _ _).pN _ _).pR _ _ _).pI _ _ _).pN _ _) ?_
  rw [pR_e]
  refine jr_aload_n dX2_init_76 rfl ?_
  refine jr_iconst (0) dX2_init_77 (by decide) ?_
  refine pfX2_55 dX2_init_78 (((((((((((((((hk.pN _ _).pR _ _ _).pI _ _ _).pI _ _ _).pI _ _ _).pI _ _ _).pI _ _ _).pI _ _ _).pI _ _ _).pI _ _ _).pN _ _).pR _ _ _).pI _ _ _).pN _ _).pR _ _ _) ?_
  rw [pI_e]
  refine jr_aload_n dX2_init_81 rfl ?_
  refine jr_iconst (3) dX2_init_82 (by decide) ?_
  refine jr_newI 3 rfl (by decide) arI (by decide) dX2_init_83 ?_
  simp only [wn_pI, wn_pR, wn_pN, wn_f0, wn_f1, wn_f2, wn_f3, wn_f4, wn_f6, wn_f7, hn]
  refine jr_dup dX2_init_85 rfl ?_
  refine jr_iconst (0) dX2_init_86 (by decide) ?_
  refine jr_ldc (-1000000005) ckX2_58 dX2_init_87 ?_
  refine jr_iast 0 (jK_nw (by simp only [wn_pI, wn_pR, wn_pN, wn_f0, wn_f1, wn_f2, wn_f3, wn_f4, wn_f6, wn_f7, hn])) rfl (by decide) dX2_init_89 ?_
  rw [pI_e]
  refine jr_dup dX2_init_90 rfl ?_
  refine jr_iconst (1) dX2_init_91 (by decide) ?_
  refine jr_ldc (-1000000005) ckX2_58 dX2_init_92 ?_
  refine jr_iast 1 ((jK_nw (by simp only [wn_pI, wn_pR, wn_pN, wn_f0, wn_f1, wn_f2, wn_f3, wn_f4, wn_f6, wn_f7, hn])).pI _ _ _) rfl (by decide) dX2_init_94 ?_
  rw [pI_e]
  refine jr_dup dX2_init_95 rfl ?_
  refine jr_iconst (2) dX2_init_96 (by decide) ?_
  refine jr_ldc (-1000000005) ckX2_58 dX2_init_97 ?_
  refine jr_iast 2 (((jK_nw (by simp only [wn_pI, wn_pR, wn_pN, wn_f0, wn_f1, wn_f2, wn_f3, wn_f4, wn_f6, wn_f7, hn])).pI _ _ _).pI _ _ _) rfl (by decide) dX2_init_99 ?_
  rw [pI_e]
  refine pfX2_59 dX2_init_100 ((((((((((((((((((((hk.pN _ _).pR _ _ _).pI _ _ _).pI _ _ _).pI _ _ _).pI _ _ _).pI _ _ _).pI _ _ _).pI _ _ _).pI _ _ _).pN _ _).pR _ _ _).pI _ _ _).pN _ _).pR _ _ _).pI _ _ _).pN _ _).pI _ _ _).pI _ _ _).pI _ _ _) ?_
  rw [pR_e]
  refine jr_iconst (0) dX2_init_103 (by decide) ?_
  refine jr_istore_1 dX2_init_104 (by decide) rfl ?_
  refine L 6 0 (m2 a w) _ _ rfl (by decide) (by decide) (by rw [wn_m2, hn]) (hk.m2 a) (m2b_F (hk.pN 12 6).1) ((jK_nw hn).m2b a) (hQ _ rfl)
