-- the class: a new text
theorem CR.ofF {g : Cx} {own : String} {cc : ByteArray} {nL : Nat} {ret : Option FieldType} {nm : String} {d kc ks : Nat} {lv : List (Option Value)} {w : Wd} {y : MethodName} {av : List Value} {P : Value → Wd → Prop} (hy : plainFor y = true) (ho : y.cls = own) (hnm : y.name = nm) (hln : (lg_sl av).length ≤ nL) (hlv : lv_args 0 av = jasc 0 lv) (K : ∀ Q : Option Value → Wd → Prop, (∀ r w', P r w' → Q (some r) w') → RR g own cc nL ret nm d kc ks kc ks 0 lv [] w Q) : CR g y cc nL ret d kc ks av w P := by
  have K1 := K (fun v w' => ∃ r, v = some r ∧ P r w') (fun r _ h => ⟨r, rfl, h⟩)
  refine ofWF (cc := cc) (maxL := nL) (ret := ret) hy rfl ?_
  intro p e s m args below meth c s₁ B hml hv
  obtain ⟨rfl, hG, hz, hP⟩ := hv
  have hts := atoms_spec (ws := Cond.code y cc nL ret :: kw) B.pre
  have hown : s.vm.findClass own = some m.cls := by rw [← ho]; exact findClass_of_methodNamed B.named
  have hin : meth.name = nm := (name_of_methodNamed B.named B.method).1.trans hnm
  have hl := lv_entry av (n := nL) hln
  rw [lg_entry_eq]
  rw [hlv] at hl
  exact K1 p e s m _ below meth c s.heap [] 0 0 _ ⟨⟨B.exec, B.bytes, hml, hown, fun w h => hts w (List.mem_cons_of_mem _ h)⟩, B.returns, B.notSynchronized, hin, hG⟩ ⟨hz, hP, va_S.rf⟩ (by omega) (by omega) hl
theorem wI_pN_o (w : Wd) {kd n i : Nat} (h : i < wn w) : wI (pN w kd n) i = wI w i := by rw [wI_pN, if_neg (by omega)]
theorem wF_pN_o (w : Wd) {kd n i : Nat} (h : i < wn w) : wF (pN w kd n) i = wF w i := by rw [wF_pN, if_neg (by omega)]
theorem wsh_pN_o (w : Wd) {kd n i : Nat} (h : i < wn w) : wsh (pN w kd n) i = wsh w i := by rw [wsh_pN, if_neg (by omega)]
theorem RF_lt {a k b : Nat} (h : RF a k = some b) : a < 98 := by
  apply Decidable.byContradiction
  intro h1
  have e : RT[a]? = none := List.getElem?_eq_none (by show RT.length ≤ a; exact Nat.le_trans (by decide) (Nat.le_of_not_lt h1))
  unfold RF at h
  rw [List.getD_eq_getElem?_getD (l := RT), e] at h
  cases h
theorem Wf.lt {w : Wd} (h : Wf w) {a : Nat} (ha : a < 98) : a < wn w := by
  have e : ∃ q, SH[a]? = some q := ⟨_, List.getElem?_eq_getElem (show a < SH.length from ha)⟩
  obtain ⟨⟨kd, n⟩, e⟩ := e
  exact (h.k e).1
theorem Wf.pN {w : Wd} (h : Wf w) (kd n : Nat) : Wf (pN w kd n) := by
  refine ⟨fun a kd' n' e => (h.k e).pN kd n, fun a k b e => ?_⟩
  rw [wF_pN_o w (h.lt (RF_lt e))]
  exact h.f e
theorem c_copyOf (g : Cx) (w : Wd) (b n m : Nat) (hb : jK w b 11 n) (hn : n < 1000) (hm : m < n) (hm2 : m ≤ 96) : CR g yJ7_copyOf_59c91 cJ7_copyOf_59c91 3 (some (.array .int)) 2 1 96 [.ref (gb g + b), .int (nI m)] w (fun r w' => r = .ref (gb g + wn w) ∧ w' = sR (pN w 11 m) (wn w) (va_cpy (wI w b) (fun _ => 0) 0 0 m)) := by
  have e1 : (if (nI m).toInt < (nI n).toInt then nI m else nI n) = nI m := if_pos (by rw [i_nI (by omega), i_nI (by omega)]; omega)
  refine CR.ofF (own := RJ7) (nm := "copyOf") (lv := [some (.ref (gb g + b)), some (.int (nI m)), none]) (by decide +kernel) rfl rfl (Nat.le_of_ble_eq_true rfl) rfl (fun Q hQ => ?_)
  refine jr_iload_n dJ7_copyOf_59c91_0 rfl ?_
  refine jr_aload_n dJ7_copyOf_59c91_1 rfl ?_
  refine jr_alen hb (by decide) dJ7_copyOf_59c91_2 ?_
  refine jr_icmp_ne 14 dJ7_copyOf_59c91_3 (by decide) (fun c_3 => ?_) (fun c_3 => absurd c_3 (fun h => by have := nI_inj (by omega) (by omega) h; omega))
  refine jr_iload_n dJ7_copyOf_59c91_14 rfl ?_
  refine jr_newI m rfl (by omega) arI ⟨by decide, by omega⟩ dJ7_copyOf_59c91_15 ?_
  refine jr_astore_2 dJ7_copyOf_59c91_17 (by decide) rfl ?_
  refine jr_aload_n dJ7_copyOf_59c91_18 rfl ?_
  refine jr_iconst (0) dJ7_copyOf_59c91_19 (by decide) ?_
  refine jr_aload_n dJ7_copyOf_59c91_20 rfl ?_
  refine jr_iconst (0) dJ7_copyOf_59c91_21 (by decide) ?_
  refine jr_aload_n dJ7_copyOf_59c91_22 rfl ?_
  refine jr_alen (hb.pN 11 m) (by decide) dJ7_copyOf_59c91_23 ?_
  refine jr_iload_n dJ7_copyOf_59c91_24 rfl ?_
  refine jc_Si (c_min g _ _ _) lkJ7_304 rfl rfl (Nat.le_of_ble_eq_true rfl) (Nat.le_of_ble_eq_true rfl) dJ7_copyOf_59c91_25 (fun r_25 w_25 h_25 => ?_)
  obtain ⟨rfl, rfl⟩ := h_25
  rw [e1]
  refine jr_acopy 0 0 m lkJ7_150 ac_nat ac_stt ac_ini (hb.pN 11 m) (jK_new w 11 m) rfl rfl rfl ⟨by omega, by omega, by omega, by omega⟩ (Nat.le_of_ble_eq_true rfl) (Nat.le_of_ble_eq_true rfl) dJ7_copyOf_59c91_28 ?_
  rw [wI_pN_o w hb.1, wI_pN, if_pos rfl]
  refine jr_aload_n dJ7_copyOf_59c91_31 rfl ?_
  refine jr_aret rfl (Or.inr ⟨_, rfl⟩) (Or.inr ⟨_, rfl⟩) dJ7_copyOf_59c91_32 ?_
  exact hQ _ _ ⟨rfl, rfl⟩
theorem c_xinit (g : Cx) (w : Wd) (x y m : Nat) (k q : Int32) (hx : jK w x 5 0) (hy : jK w y 11 m) (hm : m ≤ 96) : CV g yX5_init cX5_init 4 2 1 97 [.ref (gb g + x), .int k, .int q, .ref (gb g + y)] w (fun w' => wn w' = wn w + 1 ∧ (∀ i, i < wn w → wsh w' i = wsh w i) ∧ (∀ i, i < wn w → i ≠ x → wI w' i = wI w i ∧ wF w' i = wF w i) ∧ jK w' (wn w) 11 (m + 1) ∧ wI w' x 0 = k ∧ wI w' x 1 = q ∧ wF w' x 2 = some y ∧ wF w' x 3 = some (wn w)) := by
  have hxl := hx.1
  refine CV.of (own := RX5) (nm := "<init>") (lv := [some (.ref (gb g + x)), some (.int k), some (.int q), some (.ref (gb g + y))]) (by decide) rfl rfl (Nat.le_of_ble_eq_true rfl) rfl (fun Q hQ => ?_)
  refine jr_aload_n dX5_init_0 rfl ?_
  refine jr_objInit lkX5_1 oi_in oi_co (Nat.le_of_ble_eq_true rfl) (Nat.le_of_ble_eq_true rfl) dX5_init_1 ?_
  refine jr_aload_n dX5_init_4 rfl ?_
  refine jr_iload_n dX5_init_5 rfl ?_
  refine pfX5_7 dX5_init_6 hx ?_
  refine jr_aload_n dX5_init_9 rfl ?_
  refine jr_iload_n dX5_init_10 rfl ?_
  refine pfX5_13 dX5_init_11 hx ?_
  rw [sR_sR, wI_sR_s]
  refine jr_aload_n dX5_init_14 rfl ?_
  refine jr_aload_n dX5_init_15 rfl ?_
  refine pfX5_16 dX5_init_16 hx ?_
  refine jr_aload_n dX5_init_19 rfl ?_
  refine jr_aload_n dX5_init_20 rfl ?_
  refine jr_alen hy (by decide) dX5_init_21 ?_
  refine jr_iconst (1) dX5_init_22 (by decide) ?_
  refine jr_iadd dX5_init_23 ?_
  rw [jlit 1, nI_add]
  refine jr_newI (m + 1) rfl (by omega) arI ⟨by decide, by omega⟩ dX5_init_24 ?_
  refine pfX5_20 dX5_init_26 (hx.pN 11 (m + 1)) ?_
  refine jr_vret rfl dX5_init_29 ?_
  refine hQ _ ⟨rfl, fun i hi => ?_, fun i hi ne => ⟨?_, ?_⟩, ⟨Nat.lt_succ_self _, ?_⟩, ?_, ?_, ?_, ?_⟩
  · exact wsh_pN_o _ hi
  · rw [wI_sP, wI_pN_o _ (by exact hi), wI_sP, wI_sR_n _ ne]
  · rw [wF_sP_n _ ne, wF_pN_o _ (by exact hi), wF_sP_n _ ne]; rfl
  · exact if_pos rfl
  · rw [wI_sP, wI_pN_o _ (by exact hxl), wI_sP, wI_sR_s, pk_un (by decide), pk_us]
  · rw [wI_sP, wI_pN_o _ (by exact hxl), wI_sP, wI_sR_s, pk_us]
  · rw [wF_sP_s, uF_n _ _ (by decide), wF_pN_o _ (by exact hxl), wF_sP_s, uF_s]
  · rw [wF_sP_s, uF_s]; rfl
/-- the world has a new text, in three new cells -/
def NwT (w w' : Wd) (m : Nat) : Prop := wn w' = wn w + 3 ∧ (∀ i, i < wn w → wsh w' i = wsh w i) ∧ (∀ i, i < wn w → wI w' i = wI w i ∧ wF w' i = wF w i) ∧ jK w' (wn w) 5 0 ∧ jK w' (wn w + 1) 11 m ∧ jK w' (wn w + 2) 11 (m + 1) ∧
  wF w' (wn w) 2 = some (wn w + 1) ∧ wF w' (wn w) 3 = some (wn w + 2) ∧ wI w' (wn w) 0 = wI w 43 5 ∧ wI w' (wn w) 1 = wI w 43 6 ∧ ∀ k, k < m → wI w' (wn w + 1) k = wI w 45 k
theorem NwT.wf {w w' : Wd} {m : Nat} (h : NwT w w' m) (hw : Wf w) : Wf w' := by
  refine ⟨fun a kd n e => ?_, fun a k b e => ?_⟩
  · obtain ⟨e1, e2⟩ := hw.k e
    exact ⟨by rw [h.1]; omega, by rw [h.2.1 a e1]; exact e2⟩
  · rw [(h.2.2.1 a (hw.lt (RF_lt e))).2]
    exact hw.f e
theorem c_newText (g : Cx) (w : Wd) (hw : Wf w) (m : Nat) (hm : m < 96) (h8 : wI w 43 8 = nI m) : CR g yX6_newText cX6_newText 1 (some (.object "StrokesHeard$Text")) 3 3 200 [.ref (gb g + 43)] w (fun r w' => r = .ref (gb g + wn w) ∧ NwT w w' m) := by
  have hw1 := hw.pN 5 0
  have l43 : 43 < wn w := hw.lt (by decide)
  have l45 : 45 < wn w := hw.lt (by decide)
  obtain ⟨w1, ew1⟩ : ∃ w1, w1 = pN w 5 0 := ⟨_, rfl⟩
  have n1 : wn w1 = wn w + 1 := by rw [ew1]; rfl
  have r1 : ∀ i, i < wn w → wI w1 i = wI w i ∧ wF w1 i = wF w i ∧ wsh w1 i = wsh w i := fun i hi => by rw [ew1]; exact ⟨wI_pN_o w hi, wF_pN_o w hi, wsh_pN_o w hi⟩
  have k1 : jK w1 (wn w) 5 0 := by rw [ew1]; exact jK_new w 5 0
  rw [← ew1] at hw1
  have hC := c_copyOf g w1 45 96 m (hw1.k rfl) (by omega) hm (by omega)
  rw [n1, (r1 45 l45).1] at hC
  refine CR.of (own := RX6) (nm := "newText") (lv := [some (.ref (gb g + 43))]) (by decide) rfl rfl (Nat.le_of_ble_eq_true rfl) rfl (fun Q hQ => ?_)
  refine nwX6_58 dX6_newText_0 (by decide) ?_
  rw [← ew1]
  refine jr_dup dX6_newText_3 rfl ?_
  refine jr_aload_n dX6_newText_4 rfl ?_
  refine gfX6_28 dX6_newText_5 (hw1.k rfl) ?_
  rw [(r1 43 l43).1]
  refine jr_aload_n dX6_newText_8 rfl ?_
  refine gfX6_31 dX6_newText_9 (hw1.k rfl) ?_
  rw [(r1 43 l43).1]
  refine jr_aload_n dX6_newText_12 rfl ?_
  refine gfX6_34 45 dX6_newText_13 (hw1.k rfl) (hw1.f rfl) ?_
  refine jr_aload_n dX6_newText_16 rfl ?_
  refine gfX6_38 dX6_newText_17 (hw1.k rfl) ?_
  rw [(r1 43 l43).1, h8]
  refine jr_callS hC lkX6_60 rfl rfl (Nat.le_of_ble_eq_true rfl) (Nat.le_of_ble_eq_true rfl) (by decide) dX6_newText_20 (fun v_20 w_20 h_20 => ?_)
  obtain ⟨r_20, rfl, rfl, rfl⟩ := h_20
  have k2 : jK (pN w1 11 m) (wn w + 1) 11 m := by rw [← n1]; exact jK_new w1 11 m
  have hI := c_xinit g (sR (pN w1 11 m) (wn w + 1) (va_cpy (wI w 45) (fun _ => 0) 0 0 m)) (wn w) (wn w + 1) m (wI w 43 5) (wI w 43 6) (k1.pN 11 m) k2 (by omega)
  refine jr_callI (hI) lkX6_66 rfl rfl (Nat.le_of_ble_eq_true rfl) (Nat.le_of_ble_eq_true rfl) (by decide) dX6_newText_23 (fun v_23 w_23 h_23 => ?_)
  obtain ⟨rfl, z1, z2, z3, z4, z5, z6, z7, z8⟩ := h_23
  refine jr_aret rfl (Or.inl ⟨_, rfl⟩) (Or.inr ⟨_, rfl⟩) dX6_newText_26 ?_
  refine hQ _ _ ⟨rfl, ?_⟩
  have e2 : wn (sR (pN w1 11 m) (wn w + 1) (va_cpy (wI w 45) (fun _ => 0) 0 0 m)) = wn w + 2 := by rw [wn_sR, wn_pN, n1]
  rw [e2] at z1 z2 z3 z4 z8
  refine ⟨z1, fun i hi => ?_, fun i hi => ?_, ⟨by omega, ?_⟩, ⟨by omega, ?_⟩, z4, z7, z8, z5, z6, fun k hk => ?_⟩
  · rw [z2 i (by omega), wsh_sR, wsh_pN_o _ (by omega), (r1 i hi).2.2]
  · obtain ⟨y1, y2⟩ := z3 i (by omega) (by omega)
    exact ⟨by rw [y1, wI_sR_n _ (by omega), wI_pN_o _ (by omega), (r1 i hi).1], by rw [y2, wF_sR, wF_pN_o _ (by omega), (r1 i hi).2.1]⟩
  · rw [z2 _ (by omega), wsh_sR, wsh_pN_o _ (by omega)]; exact k1.2
  · rw [z2 _ (by omega), wsh_sR]; exact k2.2
  · rw [(z3 _ (by omega) (by omega)).1, wI_sR_s, pk_cpy_in (by omega) (by omega)]
    exact congrArg _ (by omega)
