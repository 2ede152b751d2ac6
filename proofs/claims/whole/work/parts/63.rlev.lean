-- the class's reader: levels
def scRd : Nat → Prop := fun i => i = 43 ∨ i = 45
/-- the steps that are laid, as the class keeps them -/
def CsP (w : Wd) (key a0 : Nat) (p : PS) : Prop := wI w 43 5 = nI key ∧ wI w 43 6 = nI p.2.2.2.2.1 ∧ wI w 43 8 = nI p.2.2.2.1 ∧ ∀ k, k < p.2.2.2.1 → wI w 45 k = encF (p.2.2.2.2.2 (a0 + 2 * k)) (p.2.2.2.2.2 (a0 + 2 * k + 1))
theorem CsT.u {w : Wd} {T : Nat → Int32} {n : Nat} {k : Tok} (h : CsT w T n k) {f f' : Nat → Int32} (e : ∀ j, j ≤ 4 → f' j = wI w 43 j) : CsT (sR (sR w 45 f) 43 f') T n k := by
  obtain ⟨⟨h0, h1, h2⟩, t2, t3, t4⟩ := h
  exact ⟨⟨h0, by rw [wI_sR_s, e 1 (by decide)]; exact h1, fun j hj => by rw [wI_sR_n _ (by decide), wI_sR_n _ (by decide)]; exact h2 j hj⟩, by rw [wI_sR_s, e 2 (by decide)]; exact t2, by rw [wI_sR_s, e 3 (by decide)]; exact t3, by rw [wI_sR_s, e 4 (by decide)]; exact t4⟩
theorem CsT.v {w : Wd} {T : Nat → Int32} {n : Nat} {k : Tok} (h : CsT w T n k) {f' : Nat → Int32} (e : ∀ j, j ≤ 4 → f' j = wI w 43 j) : CsT (sR w 43 f') T n k := by
  obtain ⟨⟨h0, h1, h2⟩, t2, t3, t4⟩ := h
  exact ⟨⟨h0, by rw [wI_sR_s, e 1 (by decide)]; exact h1, fun j hj => by rw [wI_sR_n _ (by decide)]; exact h2 j hj⟩, by rw [wI_sR_s, e 2 (by decide)]; exact t2, by rw [wI_sR_s, e 3 (by decide)]; exact t3, by rw [wI_sR_s, e 4 (by decide)]; exact t4⟩
/-- a step is laid, or there is no place left -/
theorem aS {w w' : Wd} {T : Nat → Int32} {n c : Nat} {k : Tok} {x : Int32} (hT : CsT w T n k) (hc : c ≤ 96) (h8 : wI w 43 8 = nI c) (h : (c = 96 ∧ w' = w) ∨ (c < 96 ∧ w' = sR (sR w 45 (upd (wI w 45) c x)) 43 (upd (wI w 43) 8 (nI (c + 1))))) : CsT w' T n k ∧ (∃ c, c ≤ 96 ∧ wI w' 43 8 = nI c) ∧ Sm scRd w w' := by
  rcases h with ⟨-, rfl⟩ | ⟨h1, rfl⟩
  · exact ⟨hT, ⟨c, hc, h8⟩, Sm.rf⟩
  · exact ⟨hT.u (fun j hj => pk_un (by omega)), ⟨c + 1, by omega, by rw [wI_sR_s, pk_us]⟩, (Sm.sR (Or.inr rfl)).tr (Sm.sR (Or.inl rfl))⟩
theorem aS_P {w w' : Wd} {key a0 : Nat} {p : PS} {a b : Int32} (hP : CsP w key a0 p) (hl : p.2.2.2.1 < 96) (h : (p.2.2.2.1 = 96 ∧ w' = w) ∨ (p.2.2.2.1 < 96 ∧ w' = sR (sR w 45 (upd (wI w 45) p.2.2.2.1 (encF a b))) 43 (upd (wI w 43) 8 (nI (p.2.2.2.1 + 1))))) : CsP w' key a0 (psSt a0 a b p) := by
  rcases h with ⟨h1, -⟩ | ⟨-, rfl⟩
  · omega
  · obtain ⟨h5, h6, h8, hs⟩ := hP
    refine ⟨by rw [wI_sR_s, pk_un (by decide)]; exact h5, by rw [wI_sR_s, pk_un (by decide)]; exact h6, by rw [wI_sR_s, pk_us]; rfl, fun k hk => ?_⟩
    rw [wI_sR_n _ (by decide), wI_sR_s]
    have hk2 : k < p.2.2.2.1 + 1 := hk
    show _ = encF (upd (upd p.2.2.2.2.2 (a0 + 2 * p.2.2.2.1) a) (a0 + 2 * p.2.2.2.1 + 1) b (a0 + 2 * k)) (upd (upd p.2.2.2.2.2 (a0 + 2 * p.2.2.2.1) a) (a0 + 2 * p.2.2.2.1 + 1) b (a0 + 2 * k + 1))
    by_cases e : k = p.2.2.2.1
    · rw [e, pk_us, pk_un (by omega), pk_us, pk_us]
    · rw [pk_un e, pk_un (by omega), pk_un (by omega), pk_un (by omega), pk_un (by omega)]
      exact hs k (by omega)
theorem CsP.nx {w : Wd} {key a0 n : Nat} {T : Nat → Int32} {p : PS} (h : CsP w key a0 p) {f : Nat → Int32} (e : ∀ j, j ≠ 2 → j ≠ 3 → j ≠ 4 → f j = wI w 43 j) : CsP (sR w 43 f) key a0 (psNx T n p) := by
  obtain ⟨h5, h6, h8, hs⟩ := h
  exact ⟨by rw [wI_sR_s, e 5 (by decide) (by decide) (by decide)]; exact h5, by rw [wI_sR_s, e 6 (by decide) (by decide) (by decide)]; exact h6, by rw [wI_sR_s, e 8 (by decide) (by decide) (by decide)]; exact h8, fun k hk => by rw [wI_sR_n _ (by decide)]; exact hs k hk⟩
theorem bw_ok {T : Nat → Int32} {n : Nat} {k : Tok} {x : Int32} (hI : TkI T n k) (h : x = kmC k.2.2.1) : (x = 1 ∨ x = 2) ↔ (0 < k.2.1 ∧ (k.2.2.1 = 1 ∨ k.2.2.1 = 2)) := by
  rw [h, kmC_1, kmC_2]
  constructor
  · intro h1
    refine ⟨?_, h1.symm⟩
    have := hI.2.2.1 (fun e => by rcases h1 with h1 | h1 <;> rw [h1] at e <;> exact absurd e (by decide))
    omega
  · exact fun h1 => h1.2.symm
theorem enc_2 (v : Int32) : encF 2 v = -v := by
  unfold encF
  rw [if_neg (by decide), if_neg (by decide)]
/-- a method of the class that reads a piece as F does -/
def RcC (g : Cx) (y : MethodName) (cc : ByteArray) (nL : Nat) (T : Nat → Int32) (n B a0 key f d : Nat) (F : PS → Bool × PS) : Prop :=
  ∀ w, Wf w → ∀ p D U, p.2.1 = D → p.2.2.1 = U → PI T n B p → 17 ≤ f + D + U → CsT w T n p.1 → CsP w key a0 p → CI g y cc nL (some .boolean) d 0 0 [.ref (gb g + 43), .int (nI D), .int (nI U)] w
    (fun r w' => r = jb ((F p).1 = true) ∧ CsT w' T n (F p).2.1 ∧ ((F p).1 = true → CsP w' key a0 (F p).2) ∧ (∃ c, c ≤ 96 ∧ wI w' 43 8 = nI c) ∧ Sm scRd w w')
theorem ad_c {g : Cx} {w : Wd} (hw : Wf w) {T : Nat → Int32} {n : Nat} (hn : n ≤ 96) (hTB : TpB T n) {k : Tok} (hT : CsT w T n k) (hI : TkI T n k) : CV g yX6_advance cX6_advance 3 2 0 0 [.ref (gb g + 43)] w (fun w' => ∃ f, w' = sR w 43 f ∧ CsT (sR w 43 f) T n (tokF T n k) ∧ ∀ j, j ≠ 2 → j ≠ 3 → j ≠ 4 → f j = wI w 43 j) :=
  c_advance g w hw T n hn hTB hT.1 k hI.1 hT.2.2.2 (bw_ok hI hT.2.1)
theorem c_readTerm (g : Cx) {T : Nat → Int32} {n B a0 key f d : Nat} {F : PS → Bool × PS} (hn : n ≤ 96) (hTB : TpB T n) (hB : B ≤ 93) (hd : 6 ≤ d) (hG : Go T n key a0 B F) (hsub : RcC g yX6_readPiece cX6_readPiece 4 T n B a0 key f d F) : RcC g yX6_readTerm cX6_readTerm 6 T n B a0 key f (d + 1) (psBi T n a0 opTe F) := by
  intro w hw p D U eD eU hp hf hT hP
  refine CI.of (own := RX6) (nm := "readTerm") (lv := [some (.ref (gb g + 43)), some (.int (nI D)), some (.int (nI U)), none, none, none]) (by decide) rfl rfl (Nat.le_of_ble_eq_true rfl) rfl (fun Q hQ => ?_)
  have L0 : ∀ (w1 : Wd) (i : Nat) (sg : Int32), i ≤ 97 → Q (some (.int 0)) w1 → RR g RX6 cX6_readTerm 6 (some .boolean) "readTerm" (d + 1) 0 0 0 0 18 [some (.ref (gb g + 43)), some (.int (nI D)), some (.int (nI U)), some (.int 0), some (.int sg), some (.int (nI i))] [] w1 Q := by
    intro w1 i sg hi hq
    refine jr_iload dX6_readTerm_18 rfl ?_
    refine jr_bipush (96) dX6_readTerm_20 (by decide) ?_
    refine jr_icmp_ge 66 dX6_readTerm_22 (by decide) (fun c_22 => ?_) (fun c_22 => ?_)
    · simp only [lt_i, le_i, eq_i, Int32.reduceToInt] at c_22
      refine jr_iload_n dX6_readTerm_66 rfl ?_
      refine jr_zret rfl (by decide) dX6_readTerm_67 ?_
      exact hq
    · simp only [lt_i, le_i, eq_i, Int32.reduceToInt] at c_22
      refine jr_iload_n dX6_readTerm_25 rfl ?_
      refine jr_if_eq 66 dX6_readTerm_26 (by decide) (fun c_26 => ?_) (fun c_26 => absurd (by decide) c_26)
      refine jr_iload_n dX6_readTerm_66 rfl ?_
      refine jr_zret rfl (by decide) dX6_readTerm_67 ?_
      exact hq
  have L : ∀ (m : Nat) (p1 : PS) (w1 : Wd) (i : Nat), PI T n B p1 → 1 ≤ dpG p1.2.2.2.2.2 a0 p1.2.2.2.1 → n < m + p1.1.1 → p1.2.1 = D → p1.2.2.1 = U → i ≤ p1.1.1 → CsT w1 T n p1.1 → CsP w1 key a0 p1 → Sm scRd w w1 → (∀ r w', r = jb ((psLp T n a0 opTe F m p1).1 = true) → CsT w' T n (psLp T n a0 opTe F m p1).2.1 → ((psLp T n a0 opTe F m p1).1 = true → CsP w' key a0 (psLp T n a0 opTe F m p1).2) → (∃ c, c ≤ 96 ∧ wI w' 43 8 = nI c) → Sm scRd w w' → Q (some (.int r)) w') → RR g RX6 cX6_readTerm 6 (some .boolean) "readTerm" (d + 1) 0 0 0 0 18 [some (.ref (gb g + 43)), some (.int (nI D)), some (.int (nI U)), some (.int 1), some (.int (if opTe p1 = true then p1.1.2.2.2.2 else 0)), some (.int (nI i))] [] w1 Q := by
    intro m
    induction m with
    | zero =>
      intro p1 w1 i hp1 hd1 hm e1 e2 hi hT1 hP1 hS hK
      have := hp1.1.1
      have := hp1.1.2.1
      omega
    | succ m ih =>
      intro p1 w1 i hp1 hd1 hm e1 e2 hi hT1 hP1 hS hK
      have hw1 := hS.wf hw
      have hi96 : i ≤ 96 := by
        have := hp1.1.1
        have := hp1.1.2.1
        omega
      by_cases ho : opTe p1 = true
      · rw [if_pos ho]
        obtain ⟨h3, hv⟩ := opTe_s p1 ho
        obtain ⟨hq, s1, s2, s3⟩ := Lp_one hG hp1 h3 hv hd1
        have htb := (hp1.1.2.2.1 (by rw [h3]; decide))
        have hte := hp1.1.1
        have hAd := ad_c (g := g) hw1 hn hTB hT1 hp1.1
        have hv0 : ¬ p1.1.2.2.2.2 = 0 := fun e => by
          rw [e] at hv
          exact absurd hv (by decide)
        have K44 : ∀ w2 r, r = jb ((F (psNx T n p1)).1 = true) → CsT w2 T n (F (psNx T n p1)).2.1 → ((F (psNx T n p1)).1 = true → CsP w2 key a0 (F (psNx T n p1)).2) → (∃ c, c ≤ 96 ∧ wI w2 43 8 = nI c) → Sm scRd w w2 → RR g RX6 cX6_readTerm 6 (some .boolean) "readTerm" (d + 1) 0 0 0 0 44 [some (.ref (gb g + 43)), some (.int (nI D)), some (.int (nI U)), some (.int 1), some (.int p1.1.2.2.2.2), some (.int (nI i))] [.int r] w2 Q := by
          intro w2 r er hT2 hP2 hc2 hS2
          have hw1 := hS2.wf hw
          by_cases h1 : (F (psNx T n p1)).1 = true
          · obtain ⟨v2, hB2, v3, hP3, d3, t3⟩ := s3 h1
            have eL : psLp T n a0 opTe F (m + 1) p1 = psLp T n a0 opTe F m (psSt a0 2 p1.1.2.2.2.2 (F (psNx T n p1)).2) := by
              simp only [psLp]
              rw [if_pos ho, if_pos h1]
            rw [eL] at hK
            rw [jb_t h1] at er
            subst er
            have hPP := hP2 h1
            have hg := v3.2.1
            have hg1 := v3.1
            have hg2 := v2.2.1
            have hg3 := v2.1
            have hdd := v3.2.2.2.2
            have hx : (psSt a0 2 p1.1.2.2.2.2 (F (psNx T n p1)).2).1.1 = (F (psNx T n p1)).2.1.1 := rfl
            have hAS := c_addStep g w2 hw1 (F (psNx T n p1)).2.2.2.2.1 (by omega) hPP.2.2.1 (-p1.1.2.2.2.2)
            have K52 : ∀ w3, CsT w3 T n (F (psNx T n p1)).2.1 → CsP w3 key a0 (psSt a0 2 p1.1.2.2.2.2 (F (psNx T n p1)).2) → Sm scRd w w3 → RR g RX6 cX6_readTerm 6 (some .boolean) "readTerm" (d + 1) 0 0 0 0 52 [some (.ref (gb g + 43)), some (.int (nI D)), some (.int (nI U)), some (.int 1), some (.int p1.1.2.2.2.2), some (.int (nI i))] [] w3 Q := by
              intro w3 q1 q2 q3
              have hw1 := q3.wf hw
              have hAm := c_among g w3 hw1 T n hn hTB _ q1 s1 6 (by decide)
              have eam := sa_Te (psSt a0 2 p1.1.2.2.2.2 (F (psNx T n p1)).2)
              rw [show (psSt a0 2 p1.1.2.2.2.2 (F (psNx T n p1)).2).1 = (F (psNx T n p1)).2.1 from rfl] at eam
              rw [eam] at hAm
              refine jr_aload_n dX6_readTerm_52 rfl ?_
              refine jr_ldcS (i := 6) (q := (126, "*/")) rfl rfl dX6_readTerm_53 ?_
              refine jc_Vi hAm lkX6_114 (hw1.k rfl) rfl rfl (by omega) (Nat.le_of_ble_eq_true rfl) dX6_readTerm_55 (fun r_55 w_55 h_55 => ?_)
              obtain ⟨rfl, rfl⟩ := h_55
              refine jr_istore_4 dX6_readTerm_58 (by decide) rfl ?_
              refine jr_iinc_5 (nI (i + 1)) dX6_readTerm_60 (inc1 i) (by decide) rfl ?_
              refine jr_goto 18 dX6_readTerm_63 (by decide) ?_
              exact ih _ _ (i + 1) hP3 (by omega) (by rw [hx]; omega) (by rw [← e1]; exact d3) (by rw [← e2]; exact t3) (by rw [hx]; omega) q1 q2 q3 hK
            refine jr_istore_3 dX6_readTerm_44 (by decide) rfl ?_
            refine jr_aload_n dX6_readTerm_45 rfl ?_
            refine jr_iload dX6_readTerm_46 rfl ?_
            refine jr_ineg dX6_readTerm_48 ?_
            refine jc_Vv (hAS) lkX6_102 (hw1.k rfl) rfl rfl (by omega) (Nat.le_of_ble_eq_true rfl) dX6_readTerm_49 (fun w_49 h_49 => ?_)
            obtain ⟨q1, q2, q3⟩ := aS hT2 (by omega) hPP.2.2.1 h_49
            have h49 := h_49
            rw [← enc_2] at h49
            exact K52 _ q1 (aS_P hPP (by omega) h49) (hS2.tr q3)
          · have eL : psLp T n a0 opTe F (m + 1) p1 = (false, (F (psNx T n p1)).2) := by
              simp only [psLp]
              rw [if_pos ho, if_neg h1]
            rw [eL] at hK
            rw [jb_f h1] at er
            subst er
            obtain ⟨c, hc, h8⟩ := hc2
            have hAS := c_addStep g w2 hw1 c hc h8 (-p1.1.2.2.2.2)
            have K52 : ∀ w3, CsT w3 T n (F (psNx T n p1)).2.1 → (∃ c, c ≤ 96 ∧ wI w3 43 8 = nI c) → Sm scRd w w3 → RR g RX6 cX6_readTerm 6 (some .boolean) "readTerm" (d + 1) 0 0 0 0 52 [some (.ref (gb g + 43)), some (.int (nI D)), some (.int (nI U)), some (.int 0), some (.int p1.1.2.2.2.2), some (.int (nI i))] [] w3 Q := by
              intro w3 q1 q2 q3
              have hw1 := q3.wf hw
              have hAm := c_among g w3 hw1 T n hn hTB _ q1 s1 6 (by decide)
              refine jr_aload_n dX6_readTerm_52 rfl ?_
              refine jr_ldcS (i := 6) (q := (126, "*/")) rfl rfl dX6_readTerm_53 ?_
              refine jc_Vi hAm lkX6_114 (hw1.k rfl) rfl rfl (by omega) (Nat.le_of_ble_eq_true rfl) dX6_readTerm_55 (fun r_55 w_55 h_55 => ?_)
              obtain ⟨rfl, rfl⟩ := h_55
              refine jr_istore_4 dX6_readTerm_58 (by decide) rfl ?_
              refine jr_iinc_5 (nI (i + 1)) dX6_readTerm_60 (inc1 i) (by decide) rfl ?_
              refine jr_goto 18 dX6_readTerm_63 (by decide) ?_
              exact L0 _ (i + 1) _ (by omega) (hK _ _ (jb_f' Bool.false_ne_true) q1 (fun h => absurd h Bool.false_ne_true) q2 q3)
            refine jr_istore_3 dX6_readTerm_44 (by decide) rfl ?_
            refine jr_aload_n dX6_readTerm_45 rfl ?_
            refine jr_iload dX6_readTerm_46 rfl ?_
            refine jr_ineg dX6_readTerm_48 ?_
            refine jc_Vv (hAS) lkX6_102 (hw1.k rfl) rfl rfl (by omega) (Nat.le_of_ble_eq_true rfl) dX6_readTerm_49 (fun w_49 h_49 => ?_)
            obtain ⟨q1, q2, q3⟩ := aS hT2 hc h8 h_49
            exact K52 _ q1 q2 (hS2.tr q3)
        refine jr_iload dX6_readTerm_18 rfl ?_
        refine jr_bipush (96) dX6_readTerm_20 (by decide) ?_
        refine jr_icmp_ge 66 dX6_readTerm_22 (by decide) (fun c_22 => absurd c_22 (by rw [jlit 96]; exact nI_ge (by omega) (by decide))) (fun c_22 => ?_)
        refine jr_iload_n dX6_readTerm_25 rfl ?_
        refine jr_if_eq 66 dX6_readTerm_26 (by decide) (fun c_26 => absurd c_26 (by decide)) (fun c_26 => ?_)
        refine jr_iload dX6_readTerm_29 rfl ?_
        refine jr_if_eq 66 dX6_readTerm_31 (by decide) (fun c_31 => absurd c_31 hv0) (fun c_31 => ?_)
        refine jr_aload_n dX6_readTerm_34 rfl ?_
        refine jc_Vv (hAd) lkX6_47 (hw1.k rfl) rfl rfl (by omega) (Nat.le_of_ble_eq_true rfl) dX6_readTerm_35 (fun w_35 h_35 => ?_)
        obtain ⟨f2, rfl, hT2, ho2⟩ := h_35
        refine jr_aload_n dX6_readTerm_38 rfl ?_
        refine jr_iload_n dX6_readTerm_39 rfl ?_
        refine jr_iload_n dX6_readTerm_40 rfl ?_
        refine jc_Vi (hsub _ (hw1.sR _ _) (psNx T n p1) D U e1 e2 hq hf hT2 (hP1.nx ho2)) lkX6_123 (hw1.k rfl) rfl rfl (by omega) (Nat.le_of_ble_eq_true rfl) dX6_readTerm_41 (fun r_41 w_41 h_41 => ?_)
        obtain ⟨er, z1, z2, z3, z4⟩ := h_41
        exact K44 _ _ er z1 z2 z3 ((hS.tr (Sm.sR (Or.inl rfl))).tr z4)
      · have eL : psLp T n a0 opTe F (m + 1) p1 = (true, p1) := by
          simp only [psLp]
          rw [if_neg ho]
        rw [eL] at hK
        rw [if_neg ho]
        have hlb : p1.2.2.2.1 ≤ 96 := by
          have a1 := hp1.2.2.2
          have a3 := hp1.1.1
          have a4 := hp1.1.2.1
          omega
        have fin : Q (some (.int 1)) w1 := hK _ _ (jb_t' rfl) hT1 (fun _ => hP1) ⟨_, hlb, hP1.2.2.1⟩ hS
        refine jr_iload dX6_readTerm_18 rfl ?_
        refine jr_bipush (96) dX6_readTerm_20 (by decide) ?_
        refine jr_icmp_ge 66 dX6_readTerm_22 (by decide) (fun c_22 => ?_) (fun c_22 => ?_)
        · simp only [lt_i, le_i, eq_i, Int32.reduceToInt] at c_22
          refine jr_iload_n dX6_readTerm_66 rfl ?_
          refine jr_zret rfl (by decide) dX6_readTerm_67 ?_
          exact fin
        · simp only [lt_i, le_i, eq_i, Int32.reduceToInt] at c_22
          refine jr_iload_n dX6_readTerm_25 rfl ?_
          refine jr_if_eq 66 dX6_readTerm_26 (by decide) (fun c_26 => absurd c_26 (by decide)) (fun c_26 => ?_)
          refine jr_iload dX6_readTerm_29 rfl ?_
          refine jr_if_eq 66 dX6_readTerm_31 (by decide) (fun c_31 => ?_) (fun c_31 => absurd rfl c_31)
          refine jr_iload_n dX6_readTerm_66 rfl ?_
          refine jr_zret rfl (by decide) dX6_readTerm_67 ?_
          exact fin
  obtain ⟨g1, g2, g3⟩ := hG p hp
  have K6 : ∀ w2 r, r = jb ((F p).1 = true) → CsT w2 T n (F p).2.1 → ((F p).1 = true → CsP w2 key a0 (F p).2) → (∃ c, c ≤ 96 ∧ wI w2 43 8 = nI c) → Sm scRd w w2 → RR g RX6 cX6_readTerm 6 (some .boolean) "readTerm" (d + 1) 0 0 0 0 6 [some (.ref (gb g + 43)), some (.int (nI D)), some (.int (nI U)), none, none, none] [.int r] w2 Q := by
    intro w2 r er hT2 hP2 hc2 hS2
    have hw1 := hS2.wf hw
    have hAm := c_among g w2 hw1 T n hn hTB _ hT2 g1 6 (by decide)
    rw [sa_Te (F p).2] at hAm
    by_cases h1 : (F p).1 = true
    · obtain ⟨w3, d3, t3⟩ := g3 h1
      have hq : PI T n B (F p).2 := hp.to w3 (by omega) g1 (by rw [d3]; exact hp.2.1) (by rw [t3]; exact hp.2.2.1)
      have hdd := w3.2.2.2.2
      have eB : psBi T n a0 opTe F p = psLp T n a0 opTe F 97 (F p).2 := by
        rw [psBi, if_pos h1]
      rw [jb_t h1] at er
      subst er
      refine jr_istore_3 dX6_readTerm_6 (by decide) rfl ?_
      refine jr_aload_n dX6_readTerm_7 rfl ?_
      refine jr_ldcS (i := 6) (q := (126, "*/")) rfl rfl dX6_readTerm_8 ?_
      refine jc_Vi hAm lkX6_114 (hw1.k rfl) rfl rfl (by omega) (Nat.le_of_ble_eq_true rfl) dX6_readTerm_10 (fun r_10 w_10 h_10 => ?_)
      obtain ⟨rfl, rfl⟩ := h_10
      refine jr_istore_4 dX6_readTerm_13 (by decide) rfl ?_
      refine jr_iconst (0) dX6_readTerm_15 (by decide) ?_
      refine jr_istore_5 dX6_readTerm_16 (by decide) rfl ?_
      exact L 97 _ _ 0 hq (by omega) (by omega) (by rw [d3]; exact eD) (by rw [t3]; exact eU) (Nat.zero_le _) hT2 (hP2 h1) hS2 (fun r w' a1 a2 a3 a4 a5 => hQ _ _ ⟨by rw [eB]; exact a1, by rw [eB]; exact a2, by rw [eB]; exact a3, a4, a5⟩)
    · have eB : psBi T n a0 opTe F p = (false, (F p).2) := by
        rw [psBi, if_neg h1]
      rw [jb_f h1] at er
      subst er
      refine jr_istore_3 dX6_readTerm_6 (by decide) rfl ?_
      refine jr_aload_n dX6_readTerm_7 rfl ?_
      refine jr_ldcS (i := 6) (q := (126, "*/")) rfl rfl dX6_readTerm_8 ?_
      refine jc_Vi hAm lkX6_114 (hw1.k rfl) rfl rfl (by omega) (Nat.le_of_ble_eq_true rfl) dX6_readTerm_10 (fun r_10 w_10 h_10 => ?_)
      obtain ⟨rfl, rfl⟩ := h_10
      refine jr_istore_4 dX6_readTerm_13 (by decide) rfl ?_
      refine jr_iconst (0) dX6_readTerm_15 (by decide) ?_
      refine jr_istore_5 dX6_readTerm_16 (by decide) rfl ?_
      exact L0 _ 0 _ (by omega) (hQ _ _ ⟨by rw [eB]; exact jb_f' Bool.false_ne_true, by rw [eB]; exact hT2, by rw [eB]; exact fun h => absurd h Bool.false_ne_true, hc2, hS2⟩)
  refine jr_aload_n dX6_readTerm_0 rfl ?_
  refine jr_iload_n dX6_readTerm_1 rfl ?_
  refine jr_iload_n dX6_readTerm_2 rfl ?_
  refine jc_Vi (hsub _ hw p D U eD eU hp hf hT hP) lkX6_123 (hw.k rfl) rfl rfl (by omega) (Nat.le_of_ble_eq_true rfl) dX6_readTerm_3 (fun r_3 w_3 h_3 => ?_)
  obtain ⟨er, z1, z2, z3, z4⟩ := h_3
  exact K6 _ _ er z1 z2 z3 z4
theorem c_readSum (g : Cx) {T : Nat → Int32} {n B a0 key f d : Nat} {F : PS → Bool × PS} (hn : n ≤ 96) (hTB : TpB T n) (hB : B ≤ 93) (hd : 6 ≤ d) (hG : Go T n key a0 B F) (hsub : RcC g yX6_readTerm cX6_readTerm 6 T n B a0 key f d F) : RcC g yX6_readSum cX6_readSum 6 T n B a0 key f (d + 1) (psBi T n a0 opSu F) := by
  intro w hw p D U eD eU hp hf hT hP
  refine CI.of (own := RX6) (nm := "readSum") (lv := [some (.ref (gb g + 43)), some (.int (nI D)), some (.int (nI U)), none, none, none]) (by decide) rfl rfl (Nat.le_of_ble_eq_true rfl) rfl (fun Q hQ => ?_)
  have L0 : ∀ (w1 : Wd) (i : Nat) (sg : Int32), i ≤ 97 → Q (some (.int 0)) w1 → RR g RX6 cX6_readSum 6 (some .boolean) "readSum" (d + 1) 0 0 0 0 18 [some (.ref (gb g + 43)), some (.int (nI D)), some (.int (nI U)), some (.int 0), some (.int sg), some (.int (nI i))] [] w1 Q := by
    intro w1 i sg hi hq
    refine jr_iload dX6_readSum_18 rfl ?_
    refine jr_bipush (96) dX6_readSum_20 (by decide) ?_
    refine jr_icmp_ge 66 dX6_readSum_22 (by decide) (fun c_22 => ?_) (fun c_22 => ?_)
    · simp only [lt_i, le_i, eq_i, Int32.reduceToInt] at c_22
      refine jr_iload_n dX6_readSum_66 rfl ?_
      refine jr_zret rfl (by decide) dX6_readSum_67 ?_
      exact hq
    · simp only [lt_i, le_i, eq_i, Int32.reduceToInt] at c_22
      refine jr_iload_n dX6_readSum_25 rfl ?_
      refine jr_if_eq 66 dX6_readSum_26 (by decide) (fun c_26 => ?_) (fun c_26 => absurd (by decide) c_26)
      refine jr_iload_n dX6_readSum_66 rfl ?_
      refine jr_zret rfl (by decide) dX6_readSum_67 ?_
      exact hq
  have L : ∀ (m : Nat) (p1 : PS) (w1 : Wd) (i : Nat), PI T n B p1 → 1 ≤ dpG p1.2.2.2.2.2 a0 p1.2.2.2.1 → n < m + p1.1.1 → p1.2.1 = D → p1.2.2.1 = U → i ≤ p1.1.1 → CsT w1 T n p1.1 → CsP w1 key a0 p1 → Sm scRd w w1 → (∀ r w', r = jb ((psLp T n a0 opSu F m p1).1 = true) → CsT w' T n (psLp T n a0 opSu F m p1).2.1 → ((psLp T n a0 opSu F m p1).1 = true → CsP w' key a0 (psLp T n a0 opSu F m p1).2) → (∃ c, c ≤ 96 ∧ wI w' 43 8 = nI c) → Sm scRd w w' → Q (some (.int r)) w') → RR g RX6 cX6_readSum 6 (some .boolean) "readSum" (d + 1) 0 0 0 0 18 [some (.ref (gb g + 43)), some (.int (nI D)), some (.int (nI U)), some (.int 1), some (.int (if opSu p1 = true then p1.1.2.2.2.2 else 0)), some (.int (nI i))] [] w1 Q := by
    intro m
    induction m with
    | zero =>
      intro p1 w1 i hp1 hd1 hm e1 e2 hi hT1 hP1 hS hK
      have := hp1.1.1
      have := hp1.1.2.1
      omega
    | succ m ih =>
      intro p1 w1 i hp1 hd1 hm e1 e2 hi hT1 hP1 hS hK
      have hw1 := hS.wf hw
      have hi96 : i ≤ 96 := by
        have := hp1.1.1
        have := hp1.1.2.1
        omega
      by_cases ho : opSu p1 = true
      · rw [if_pos ho]
        obtain ⟨h3, hv⟩ := opSu_s p1 ho
        obtain ⟨hq, s1, s2, s3⟩ := Lp_one hG hp1 h3 hv hd1
        have htb := (hp1.1.2.2.1 (by rw [h3]; decide))
        have hte := hp1.1.1
        have hAd := ad_c (g := g) hw1 hn hTB hT1 hp1.1
        have hv0 : ¬ p1.1.2.2.2.2 = 0 := fun e => by
          rw [e] at hv
          exact absurd hv (by decide)
        have K44 : ∀ w2 r, r = jb ((F (psNx T n p1)).1 = true) → CsT w2 T n (F (psNx T n p1)).2.1 → ((F (psNx T n p1)).1 = true → CsP w2 key a0 (F (psNx T n p1)).2) → (∃ c, c ≤ 96 ∧ wI w2 43 8 = nI c) → Sm scRd w w2 → RR g RX6 cX6_readSum 6 (some .boolean) "readSum" (d + 1) 0 0 0 0 44 [some (.ref (gb g + 43)), some (.int (nI D)), some (.int (nI U)), some (.int 1), some (.int p1.1.2.2.2.2), some (.int (nI i))] [.int r] w2 Q := by
          intro w2 r er hT2 hP2 hc2 hS2
          have hw1 := hS2.wf hw
          by_cases h1 : (F (psNx T n p1)).1 = true
          · obtain ⟨v2, hB2, v3, hP3, d3, t3⟩ := s3 h1
            have eL : psLp T n a0 opSu F (m + 1) p1 = psLp T n a0 opSu F m (psSt a0 2 p1.1.2.2.2.2 (F (psNx T n p1)).2) := by
              simp only [psLp]
              rw [if_pos ho, if_pos h1]
            rw [eL] at hK
            rw [jb_t h1] at er
            subst er
            have hPP := hP2 h1
            have hg := v3.2.1
            have hg1 := v3.1
            have hg2 := v2.2.1
            have hg3 := v2.1
            have hdd := v3.2.2.2.2
            have hx : (psSt a0 2 p1.1.2.2.2.2 (F (psNx T n p1)).2).1.1 = (F (psNx T n p1)).2.1.1 := rfl
            have hAS := c_addStep g w2 hw1 (F (psNx T n p1)).2.2.2.2.1 (by omega) hPP.2.2.1 (-p1.1.2.2.2.2)
            have K52 : ∀ w3, CsT w3 T n (F (psNx T n p1)).2.1 → CsP w3 key a0 (psSt a0 2 p1.1.2.2.2.2 (F (psNx T n p1)).2) → Sm scRd w w3 → RR g RX6 cX6_readSum 6 (some .boolean) "readSum" (d + 1) 0 0 0 0 52 [some (.ref (gb g + 43)), some (.int (nI D)), some (.int (nI U)), some (.int 1), some (.int p1.1.2.2.2.2), some (.int (nI i))] [] w3 Q := by
              intro w3 q1 q2 q3
              have hw1 := q3.wf hw
              have hAm := c_among g w3 hw1 T n hn hTB _ q1 s1 7 (by decide)
              have eam := sa_Su (psSt a0 2 p1.1.2.2.2.2 (F (psNx T n p1)).2)
              rw [show (psSt a0 2 p1.1.2.2.2.2 (F (psNx T n p1)).2).1 = (F (psNx T n p1)).2.1 from rfl] at eam
              rw [eam] at hAm
              refine jr_aload_n dX6_readSum_52 rfl ?_
              refine jr_ldcS (i := 7) (q := (121, "+-")) rfl rfl dX6_readSum_53 ?_
              refine jc_Vi hAm lkX6_114 (hw1.k rfl) rfl rfl (by omega) (Nat.le_of_ble_eq_true rfl) dX6_readSum_55 (fun r_55 w_55 h_55 => ?_)
              obtain ⟨rfl, rfl⟩ := h_55
              refine jr_istore_4 dX6_readSum_58 (by decide) rfl ?_
              refine jr_iinc_5 (nI (i + 1)) dX6_readSum_60 (inc1 i) (by decide) rfl ?_
              refine jr_goto 18 dX6_readSum_63 (by decide) ?_
              exact ih _ _ (i + 1) hP3 (by omega) (by rw [hx]; omega) (by rw [← e1]; exact d3) (by rw [← e2]; exact t3) (by rw [hx]; omega) q1 q2 q3 hK
            refine jr_istore_3 dX6_readSum_44 (by decide) rfl ?_
            refine jr_aload_n dX6_readSum_45 rfl ?_
            refine jr_iload dX6_readSum_46 rfl ?_
            refine jr_ineg dX6_readSum_48 ?_
            refine jc_Vv (hAS) lkX6_102 (hw1.k rfl) rfl rfl (by omega) (Nat.le_of_ble_eq_true rfl) dX6_readSum_49 (fun w_49 h_49 => ?_)
            obtain ⟨q1, q2, q3⟩ := aS hT2 (by omega) hPP.2.2.1 h_49
            have h49 := h_49
            rw [← enc_2] at h49
            exact K52 _ q1 (aS_P hPP (by omega) h49) (hS2.tr q3)
          · have eL : psLp T n a0 opSu F (m + 1) p1 = (false, (F (psNx T n p1)).2) := by
              simp only [psLp]
              rw [if_pos ho, if_neg h1]
            rw [eL] at hK
            rw [jb_f h1] at er
            subst er
            obtain ⟨c, hc, h8⟩ := hc2
            have hAS := c_addStep g w2 hw1 c hc h8 (-p1.1.2.2.2.2)
            have K52 : ∀ w3, CsT w3 T n (F (psNx T n p1)).2.1 → (∃ c, c ≤ 96 ∧ wI w3 43 8 = nI c) → Sm scRd w w3 → RR g RX6 cX6_readSum 6 (some .boolean) "readSum" (d + 1) 0 0 0 0 52 [some (.ref (gb g + 43)), some (.int (nI D)), some (.int (nI U)), some (.int 0), some (.int p1.1.2.2.2.2), some (.int (nI i))] [] w3 Q := by
              intro w3 q1 q2 q3
              have hw1 := q3.wf hw
              have hAm := c_among g w3 hw1 T n hn hTB _ q1 s1 7 (by decide)
              refine jr_aload_n dX6_readSum_52 rfl ?_
              refine jr_ldcS (i := 7) (q := (121, "+-")) rfl rfl dX6_readSum_53 ?_
              refine jc_Vi hAm lkX6_114 (hw1.k rfl) rfl rfl (by omega) (Nat.le_of_ble_eq_true rfl) dX6_readSum_55 (fun r_55 w_55 h_55 => ?_)
              obtain ⟨rfl, rfl⟩ := h_55
              refine jr_istore_4 dX6_readSum_58 (by decide) rfl ?_
              refine jr_iinc_5 (nI (i + 1)) dX6_readSum_60 (inc1 i) (by decide) rfl ?_
              refine jr_goto 18 dX6_readSum_63 (by decide) ?_
              exact L0 _ (i + 1) _ (by omega) (hK _ _ (jb_f' Bool.false_ne_true) q1 (fun h => absurd h Bool.false_ne_true) q2 q3)
            refine jr_istore_3 dX6_readSum_44 (by decide) rfl ?_
            refine jr_aload_n dX6_readSum_45 rfl ?_
            refine jr_iload dX6_readSum_46 rfl ?_
            refine jr_ineg dX6_readSum_48 ?_
            refine jc_Vv (hAS) lkX6_102 (hw1.k rfl) rfl rfl (by omega) (Nat.le_of_ble_eq_true rfl) dX6_readSum_49 (fun w_49 h_49 => ?_)
            obtain ⟨q1, q2, q3⟩ := aS hT2 hc h8 h_49
            exact K52 _ q1 q2 (hS2.tr q3)
        refine jr_iload dX6_readSum_18 rfl ?_
        refine jr_bipush (96) dX6_readSum_20 (by decide) ?_
        refine jr_icmp_ge 66 dX6_readSum_22 (by decide) (fun c_22 => absurd c_22 (by rw [jlit 96]; exact nI_ge (by omega) (by decide))) (fun c_22 => ?_)
        refine jr_iload_n dX6_readSum_25 rfl ?_
        refine jr_if_eq 66 dX6_readSum_26 (by decide) (fun c_26 => absurd c_26 (by decide)) (fun c_26 => ?_)
        refine jr_iload dX6_readSum_29 rfl ?_
        refine jr_if_eq 66 dX6_readSum_31 (by decide) (fun c_31 => absurd c_31 hv0) (fun c_31 => ?_)
        refine jr_aload_n dX6_readSum_34 rfl ?_
        refine jc_Vv (hAd) lkX6_47 (hw1.k rfl) rfl rfl (by omega) (Nat.le_of_ble_eq_true rfl) dX6_readSum_35 (fun w_35 h_35 => ?_)
        obtain ⟨f2, rfl, hT2, ho2⟩ := h_35
        refine jr_aload_n dX6_readSum_38 rfl ?_
        refine jr_iload_n dX6_readSum_39 rfl ?_
        refine jr_iload_n dX6_readSum_40 rfl ?_
        refine jc_Vi (hsub _ (hw1.sR _ _) (psNx T n p1) D U e1 e2 hq hf hT2 (hP1.nx ho2)) lkX6_118 (hw1.k rfl) rfl rfl (by omega) (Nat.le_of_ble_eq_true rfl) dX6_readSum_41 (fun r_41 w_41 h_41 => ?_)
        obtain ⟨er, z1, z2, z3, z4⟩ := h_41
        exact K44 _ _ er z1 z2 z3 ((hS.tr (Sm.sR (Or.inl rfl))).tr z4)
      · have eL : psLp T n a0 opSu F (m + 1) p1 = (true, p1) := by
          simp only [psLp]
          rw [if_neg ho]
        rw [eL] at hK
        rw [if_neg ho]
        have hlb : p1.2.2.2.1 ≤ 96 := by
          have a1 := hp1.2.2.2
          have a3 := hp1.1.1
          have a4 := hp1.1.2.1
          omega
        have fin : Q (some (.int 1)) w1 := hK _ _ (jb_t' rfl) hT1 (fun _ => hP1) ⟨_, hlb, hP1.2.2.1⟩ hS
        refine jr_iload dX6_readSum_18 rfl ?_
        refine jr_bipush (96) dX6_readSum_20 (by decide) ?_
        refine jr_icmp_ge 66 dX6_readSum_22 (by decide) (fun c_22 => ?_) (fun c_22 => ?_)
        · simp only [lt_i, le_i, eq_i, Int32.reduceToInt] at c_22
          refine jr_iload_n dX6_readSum_66 rfl ?_
          refine jr_zret rfl (by decide) dX6_readSum_67 ?_
          exact fin
        · simp only [lt_i, le_i, eq_i, Int32.reduceToInt] at c_22
          refine jr_iload_n dX6_readSum_25 rfl ?_
          refine jr_if_eq 66 dX6_readSum_26 (by decide) (fun c_26 => absurd c_26 (by decide)) (fun c_26 => ?_)
          refine jr_iload dX6_readSum_29 rfl ?_
          refine jr_if_eq 66 dX6_readSum_31 (by decide) (fun c_31 => ?_) (fun c_31 => absurd rfl c_31)
          refine jr_iload_n dX6_readSum_66 rfl ?_
          refine jr_zret rfl (by decide) dX6_readSum_67 ?_
          exact fin
  obtain ⟨g1, g2, g3⟩ := hG p hp
  have K6 : ∀ w2 r, r = jb ((F p).1 = true) → CsT w2 T n (F p).2.1 → ((F p).1 = true → CsP w2 key a0 (F p).2) → (∃ c, c ≤ 96 ∧ wI w2 43 8 = nI c) → Sm scRd w w2 → RR g RX6 cX6_readSum 6 (some .boolean) "readSum" (d + 1) 0 0 0 0 6 [some (.ref (gb g + 43)), some (.int (nI D)), some (.int (nI U)), none, none, none] [.int r] w2 Q := by
    intro w2 r er hT2 hP2 hc2 hS2
    have hw1 := hS2.wf hw
    have hAm := c_among g w2 hw1 T n hn hTB _ hT2 g1 7 (by decide)
    rw [sa_Su (F p).2] at hAm
    by_cases h1 : (F p).1 = true
    · obtain ⟨w3, d3, t3⟩ := g3 h1
      have hq : PI T n B (F p).2 := hp.to w3 (by omega) g1 (by rw [d3]; exact hp.2.1) (by rw [t3]; exact hp.2.2.1)
      have hdd := w3.2.2.2.2
      have eB : psBi T n a0 opSu F p = psLp T n a0 opSu F 97 (F p).2 := by
        rw [psBi, if_pos h1]
      rw [jb_t h1] at er
      subst er
      refine jr_istore_3 dX6_readSum_6 (by decide) rfl ?_
      refine jr_aload_n dX6_readSum_7 rfl ?_
      refine jr_ldcS (i := 7) (q := (121, "+-")) rfl rfl dX6_readSum_8 ?_
      refine jc_Vi hAm lkX6_114 (hw1.k rfl) rfl rfl (by omega) (Nat.le_of_ble_eq_true rfl) dX6_readSum_10 (fun r_10 w_10 h_10 => ?_)
      obtain ⟨rfl, rfl⟩ := h_10
      refine jr_istore_4 dX6_readSum_13 (by decide) rfl ?_
      refine jr_iconst (0) dX6_readSum_15 (by decide) ?_
      refine jr_istore_5 dX6_readSum_16 (by decide) rfl ?_
      exact L 97 _ _ 0 hq (by omega) (by omega) (by rw [d3]; exact eD) (by rw [t3]; exact eU) (Nat.zero_le _) hT2 (hP2 h1) hS2 (fun r w' a1 a2 a3 a4 a5 => hQ _ _ ⟨by rw [eB]; exact a1, by rw [eB]; exact a2, by rw [eB]; exact a3, a4, a5⟩)
    · have eB : psBi T n a0 opSu F p = (false, (F p).2) := by
        rw [psBi, if_neg h1]
      rw [jb_f h1] at er
      subst er
      refine jr_istore_3 dX6_readSum_6 (by decide) rfl ?_
      refine jr_aload_n dX6_readSum_7 rfl ?_
      refine jr_ldcS (i := 7) (q := (121, "+-")) rfl rfl dX6_readSum_8 ?_
      refine jc_Vi hAm lkX6_114 (hw1.k rfl) rfl rfl (by omega) (Nat.le_of_ble_eq_true rfl) dX6_readSum_10 (fun r_10 w_10 h_10 => ?_)
      obtain ⟨rfl, rfl⟩ := h_10
      refine jr_istore_4 dX6_readSum_13 (by decide) rfl ?_
      refine jr_iconst (0) dX6_readSum_15 (by decide) ?_
      refine jr_istore_5 dX6_readSum_16 (by decide) rfl ?_
      exact L0 _ 0 _ (by omega) (hQ _ _ ⟨by rw [eB]; exact jb_f' Bool.false_ne_true, by rw [eB]; exact hT2, by rw [eB]; exact fun h => absurd h Bool.false_ne_true, hc2, hS2⟩)
  refine jr_aload_n dX6_readSum_0 rfl ?_
  refine jr_iload_n dX6_readSum_1 rfl ?_
  refine jr_iload_n dX6_readSum_2 rfl ?_
  refine jc_Vi (hsub _ hw p D U eD eU hp hf hT hP) lkX6_118 (hw.k rfl) rfl rfl (by omega) (Nat.le_of_ble_eq_true rfl) dX6_readSum_3 (fun r_3 w_3 h_3 => ?_)
  obtain ⟨er, z1, z2, z3, z4⟩ := h_3
  exact K6 _ _ er z1 z2 z3 z4
theorem c_readTest (g : Cx) {T : Nat → Int32} {n B a0 key f d : Nat} {F : PS → Bool × PS} (hn : n ≤ 96) (hTB : TpB T n) (hB : B ≤ 93) (hd : 6 ≤ d) (hG : Go T n key a0 B F) (hsub : RcC g yX6_readSum cX6_readSum 6 T n B a0 key f d F) : RcC g yX6_readTest cX6_readTest 5 T n B a0 key f (d + 1) (psTe T n a0 opCm F) := by
  intro w hw p D U eD eU hp hf hT hP
  refine CI.of (own := RX6) (nm := "readTest") (lv := [some (.ref (gb g + 43)), some (.int (nI D)), some (.int (nI U)), none, none]) (by decide) rfl rfl (Nat.le_of_ble_eq_true rfl) rfl (fun Q hQ => ?_)
  obtain ⟨g1, g2, g3⟩ := hG p hp
  have K6 : ∀ w2 r, r = jb ((F p).1 = true) → CsT w2 T n (F p).2.1 → ((F p).1 = true → CsP w2 key a0 (F p).2) → (∃ c, c ≤ 96 ∧ wI w2 43 8 = nI c) → Sm scRd w w2 → RR g RX6 cX6_readTest 5 (some .boolean) "readTest" (d + 1) 0 0 0 0 6 [some (.ref (gb g + 43)), some (.int (nI D)), some (.int (nI U)), none, none] [.int r] w2 Q := by
    intro w2 r er hT2 hP2 hc2 hS2
    have hw1 := hS2.wf hw
    have hAm := c_among g w2 hw1 T n hn hTB _ hT2 g1 8 (by decide)
    rw [sa_Cm (F p).2] at hAm
    by_cases h1 : (F p).1 = true
    · obtain ⟨w3, d3, t3⟩ := g3 h1
      have hp1 : PI T n B (F p).2 := hp.to w3 (by omega) g1 (by rw [d3]; exact hp.2.1) (by rw [t3]; exact hp.2.2.1)
      have hdd := w3.2.2.2.2
      rw [jb_t h1] at er
      subst er
      by_cases ho : opCm (F p).2 = true
      · obtain ⟨h3, hv⟩ := opCm_s _ ho
        rw [if_pos ho] at hAm
        obtain ⟨hq, s1, s2, s3⟩ := Lp_one hG hp1 h3 hv (by omega)
        have hAd := ad_c (g := g) hw1 hn hTB hT2 hp1.1
        have hv0 : ¬ (F p).2.1.2.2.2.2 = 0 := fun e => by
          rw [e] at hv
          exact absurd hv (by decide)
        have K34 : ∀ w3 r, r = jb ((F (psNx T n (F p).2)).1 = true) → CsT w3 T n (F (psNx T n (F p).2)).2.1 → ((F (psNx T n (F p).2)).1 = true → CsP w3 key a0 (F (psNx T n (F p).2)).2) → (∃ c, c ≤ 96 ∧ wI w3 43 8 = nI c) → Sm scRd w w3 → RR g RX6 cX6_readTest 5 (some .boolean) "readTest" (d + 1) 0 0 0 0 34 [some (.ref (gb g + 43)), some (.int (nI D)), some (.int (nI U)), some (.int (F p).2.1.2.2.2.2), none] [.int r] w3 Q := by
          intro w3 r er hT3 hP3' hc3 hS3
          have hw1 := hS3.wf hw
          by_cases h5 : (F (psNx T n (F p).2)).1 = true
          · obtain ⟨v2, hB2, v3, hP3, d4, t4⟩ := s3 h5
            have eB : psTe T n a0 opCm F p = (true, psSt a0 2 (F p).2.1.2.2.2.2 (F (psNx T n (F p).2)).2) := by
              rw [psTe, if_pos h1, if_pos ho, if_pos h5]
            rw [jb_t h5] at er
            subst er
            have hPP := hP3' h5
            have hAS := c_addStep g w3 hw1 (F (psNx T n (F p).2)).2.2.2.2.1 (by omega) hPP.2.2.1 (-(F p).2.1.2.2.2.2)
            refine jr_istore_4 dX6_readTest_34 (by decide) rfl ?_
            refine jr_aload_n dX6_readTest_36 rfl ?_
            refine jr_iload_n dX6_readTest_37 rfl ?_
            refine jr_ineg dX6_readTest_38 ?_
            refine jc_Vv (hAS) lkX6_102 (hw1.k rfl) rfl rfl (by omega) (Nat.le_of_ble_eq_true rfl) dX6_readTest_39 (fun w_39 h_39 => ?_)
            refine jr_iload dX6_readTest_42 rfl ?_
            refine jr_zret rfl (by decide) dX6_readTest_44 ?_
            obtain ⟨q1, q2, q3⟩ := aS hT3 (by omega) hPP.2.2.1 h_39
            have h39 := h_39
            rw [← enc_2] at h39
            exact hQ _ _ ⟨by rw [eB]; exact jb_t' rfl, by rw [eB]; exact q1, by rw [eB]; exact fun _ => aS_P hPP (by omega) h39, q2, hS3.tr q3⟩
          · have eB : psTe T n a0 opCm F p = (false, (F (psNx T n (F p).2)).2) := by
              rw [psTe, if_pos h1, if_pos ho, if_neg h5]
            rw [jb_f h5] at er
            subst er
            obtain ⟨c, hc, h8⟩ := hc3
            have hAS := c_addStep g w3 hw1 c hc h8 (-(F p).2.1.2.2.2.2)
            refine jr_istore_4 dX6_readTest_34 (by decide) rfl ?_
            refine jr_aload_n dX6_readTest_36 rfl ?_
            refine jr_iload_n dX6_readTest_37 rfl ?_
            refine jr_ineg dX6_readTest_38 ?_
            refine jc_Vv (hAS) lkX6_102 (hw1.k rfl) rfl rfl (by omega) (Nat.le_of_ble_eq_true rfl) dX6_readTest_39 (fun w_39 h_39 => ?_)
            refine jr_iload dX6_readTest_42 rfl ?_
            refine jr_zret rfl (by decide) dX6_readTest_44 ?_
            obtain ⟨q1, q2, q3⟩ := aS hT3 hc h8 h_39
            exact hQ _ _ ⟨by rw [eB]; exact jb_f' Bool.false_ne_true, by rw [eB]; exact q1, by rw [eB]; exact fun h => absurd h Bool.false_ne_true, q2, hS3.tr q3⟩
        refine jr_if_ne 11 dX6_readTest_6 (by decide) (fun c_6 => ?_) (fun c_6 => absurd c_6 (by decide))
        refine jr_aload_n dX6_readTest_11 rfl ?_
        refine jr_ldcS (i := 8) (q := (112, "<=>")) rfl rfl dX6_readTest_12 ?_
        refine jc_Vi hAm lkX6_114 (hw1.k rfl) rfl rfl (by omega) (Nat.le_of_ble_eq_true rfl) dX6_readTest_14 (fun r_14 w_14 h_14 => ?_)
        obtain ⟨rfl, rfl⟩ := h_14
        refine jr_istore_3 dX6_readTest_17 (by decide) rfl ?_
        refine jr_iload_n dX6_readTest_18 rfl ?_
        refine jr_if_ne 24 dX6_readTest_19 (by decide) (fun c_19 => ?_) (fun c_19 => absurd c_19 hv0)
        refine jr_aload_n dX6_readTest_24 rfl ?_
        refine jc_Vv (hAd) lkX6_47 (hw1.k rfl) rfl rfl (by omega) (Nat.le_of_ble_eq_true rfl) dX6_readTest_25 (fun w_25 h_25 => ?_)
        obtain ⟨f2, rfl, hT3, ho2⟩ := h_25
        refine jr_aload_n dX6_readTest_28 rfl ?_
        refine jr_iload_n dX6_readTest_29 rfl ?_
        refine jr_iload_n dX6_readTest_30 rfl ?_
        refine jc_Vi (hsub _ (hw1.sR _ _) (psNx T n (F p).2) D U (by exact d3.trans eD) (by exact t3.trans eU) hq hf hT3 ((hP2 h1).nx ho2)) lkX6_109 (hw1.k rfl) rfl rfl (by omega) (Nat.le_of_ble_eq_true rfl) dX6_readTest_31 (fun r_31 w_31 h_31 => ?_)
        obtain ⟨er, z1, z2, z3, z4⟩ := h_31
        exact K34 _ _ er z1 z2 z3 ((hS2.tr (Sm.sR (Or.inl rfl))).tr z4)
      · rw [if_neg ho] at hAm
        have eB : psTe T n a0 opCm F p = (true, (F p).2) := by
          rw [psTe, if_pos h1, if_neg ho]
        refine jr_if_ne 11 dX6_readTest_6 (by decide) (fun c_6 => ?_) (fun c_6 => absurd c_6 (by decide))
        refine jr_aload_n dX6_readTest_11 rfl ?_
        refine jr_ldcS (i := 8) (q := (112, "<=>")) rfl rfl dX6_readTest_12 ?_
        refine jc_Vi hAm lkX6_114 (hw1.k rfl) rfl rfl (by omega) (Nat.le_of_ble_eq_true rfl) dX6_readTest_14 (fun r_14 w_14 h_14 => ?_)
        obtain ⟨rfl, rfl⟩ := h_14
        refine jr_istore_3 dX6_readTest_17 (by decide) rfl ?_
        refine jr_iload_n dX6_readTest_18 rfl ?_
        refine jr_if_ne 24 dX6_readTest_19 (by decide) (fun c_19 => absurd rfl c_19) (fun c_19 => ?_)
        refine jr_iconst (1) dX6_readTest_22 (by decide) ?_
        refine jr_zret rfl (by decide) dX6_readTest_23 ?_
        exact hQ _ _ ⟨by rw [eB]; exact jb_t' rfl, by rw [eB]; exact hT2, by rw [eB]; exact fun _ => hP2 h1, hc2, hS2⟩
    · have eB : psTe T n a0 opCm F p = (false, (F p).2) := by
        rw [psTe, if_neg h1]
      rw [jb_f h1] at er
      subst er
      refine jr_if_ne 11 dX6_readTest_6 (by decide) (fun c_6 => absurd (by decide) c_6) (fun c_6 => ?_)
      refine jr_iconst (0) dX6_readTest_9 (by decide) ?_
      refine jr_zret rfl (by decide) dX6_readTest_10 ?_
      exact hQ _ _ ⟨by rw [eB]; exact jb_f' Bool.false_ne_true, by rw [eB]; exact hT2, by rw [eB]; exact fun h => absurd h Bool.false_ne_true, hc2, hS2⟩
  refine jr_aload_n dX6_readTest_0 rfl ?_
  refine jr_iload_n dX6_readTest_1 rfl ?_
  refine jr_iload_n dX6_readTest_2 rfl ?_
  refine jc_Vi (hsub _ hw p D U eD eU hp hf hT hP) lkX6_109 (hw.k rfl) rfl rfl (by omega) (Nat.le_of_ble_eq_true rfl) dX6_readTest_3 (fun r_3 w_3 h_3 => ?_)
  obtain ⟨er, z1, z2, z3, z4⟩ := h_3
  exact K6 _ _ er z1 z2 z3 z4
theorem c_readAnd (g : Cx) {T : Nat → Int32} {n B a0 key f d : Nat} {F : PS → Bool × PS} (hn : n ≤ 96) (hTB : TpB T n) (hB : B ≤ 93) (hd : 6 ≤ d) (hG : Go T n key a0 B F) (hsub : RcC g yX6_readTest cX6_readTest 5 T n B a0 key f d F) : RcC g yX6_readAnd cX6_readAnd 5 T n B a0 key f (d + 1) (psBi T n a0 opAn F) := by
  intro w hw p D U eD eU hp hf hT hP
  refine CI.of (own := RX6) (nm := "readAnd") (lv := [some (.ref (gb g + 43)), some (.int (nI D)), some (.int (nI U)), none, none]) (by decide) rfl rfl (Nat.le_of_ble_eq_true rfl) rfl (fun Q hQ => ?_)
  have L0 : ∀ (w1 : Wd) (i : Nat), i ≤ 97 → Q (some (.int 0)) w1 → RR g RX6 cX6_readAnd 5 (some .boolean) "readAnd" (d + 1) 0 0 0 0 10 [some (.ref (gb g + 43)), some (.int (nI D)), some (.int (nI U)), some (.int 0), some (.int (nI i))] [] w1 Q := by
    intro w1 i hi hq
    refine jr_iload dX6_readAnd_10 rfl ?_
    refine jr_bipush (96) dX6_readAnd_12 (by decide) ?_
    refine jr_icmp_ge 53 dX6_readAnd_14 (by decide) (fun c_14 => ?_) (fun c_14 => ?_)
    · simp only [lt_i, le_i, eq_i, Int32.reduceToInt] at c_14
      refine jr_iload_n dX6_readAnd_53 rfl ?_
      refine jr_zret rfl (by decide) dX6_readAnd_54 ?_
      exact hq
    · simp only [lt_i, le_i, eq_i, Int32.reduceToInt] at c_14
      refine jr_iload_n dX6_readAnd_17 rfl ?_
      refine jr_if_eq 53 dX6_readAnd_18 (by decide) (fun c_18 => ?_) (fun c_18 => absurd (by decide) c_18)
      refine jr_iload_n dX6_readAnd_53 rfl ?_
      refine jr_zret rfl (by decide) dX6_readAnd_54 ?_
      exact hq
  have L : ∀ (m : Nat) (p1 : PS) (w1 : Wd) (i : Nat), PI T n B p1 → 1 ≤ dpG p1.2.2.2.2.2 a0 p1.2.2.2.1 → n < m + p1.1.1 → p1.2.1 = D → p1.2.2.1 = U → i ≤ p1.1.1 → CsT w1 T n p1.1 → CsP w1 key a0 p1 → Sm scRd w w1 → (∀ r w', r = jb ((psLp T n a0 opAn F m p1).1 = true) → CsT w' T n (psLp T n a0 opAn F m p1).2.1 → ((psLp T n a0 opAn F m p1).1 = true → CsP w' key a0 (psLp T n a0 opAn F m p1).2) → (∃ c, c ≤ 96 ∧ wI w' 43 8 = nI c) → Sm scRd w w' → Q (some (.int r)) w') → RR g RX6 cX6_readAnd 5 (some .boolean) "readAnd" (d + 1) 0 0 0 0 10 [some (.ref (gb g + 43)), some (.int (nI D)), some (.int (nI U)), some (.int 1), some (.int (nI i))] [] w1 Q := by
    intro m
    induction m with
    | zero =>
      intro p1 w1 i hp1 hd1 hm e1 e2 hi hT1 hP1 hS hK
      have := hp1.1.1
      have := hp1.1.2.1
      omega
    | succ m ih =>
      intro p1 w1 i hp1 hd1 hm e1 e2 hi hT1 hP1 hS hK
      have hw1 := hS.wf hw
      have hi96 : i ≤ 96 := by
        have := hp1.1.1
        have := hp1.1.2.1
        omega
      have hSg := c_rSign g w1 hw1 T n hn hTB p1.1 hT1 hp1.1 38 (by decide)
      by_cases ho : opAn p1 = true
      · obtain ⟨h3, hv⟩ := opAn_s p1 ho
        have ev : p1.1.2.2.2.2 = 38 := (of_decide_eq_true ho).2
        obtain ⟨hq, s1, s2, s3⟩ := Lp_one hG hp1 h3 hv hd1
        have htb := (hp1.1.2.2.1 (by rw [h3]; decide))
        have hte := hp1.1.1
        have hAd := ad_c (g := g) hw1 hn hTB hT1 hp1.1
        have K40 : ∀ w2 r, r = jb ((F (psNx T n p1)).1 = true) → CsT w2 T n (F (psNx T n p1)).2.1 → ((F (psNx T n p1)).1 = true → CsP w2 key a0 (F (psNx T n p1)).2) → (∃ c, c ≤ 96 ∧ wI w2 43 8 = nI c) → Sm scRd w w2 → RR g RX6 cX6_readAnd 5 (some .boolean) "readAnd" (d + 1) 0 0 0 0 40 [some (.ref (gb g + 43)), some (.int (nI D)), some (.int (nI U)), some (.int 1), some (.int (nI i))] [.int r] w2 Q := by
          intro w2 r er hT2 hP2 hc2 hS2
          have hw1 := hS2.wf hw
          by_cases h1 : (F (psNx T n p1)).1 = true
          · obtain ⟨v2, hB2, v3, hP3, d3, t3⟩ := s3 h1
            have eL : psLp T n a0 opAn F (m + 1) p1 = psLp T n a0 opAn F m (psSt a0 2 p1.1.2.2.2.2 (F (psNx T n p1)).2) := by
              simp only [psLp]
              rw [if_pos ho, if_pos h1]
            rw [eL] at hK
            rw [jb_t h1] at er
            subst er
            have hPP := hP2 h1
            have hg := v3.2.1
            have hg1 := v3.1
            have hg2 := v2.2.1
            have hg3 := v2.1
            have hdd := v3.2.2.2.2
            have hx : (psSt a0 2 p1.1.2.2.2.2 (F (psNx T n p1)).2).1.1 = (F (psNx T n p1)).2.1.1 := rfl
            have hAS := c_addStep g w2 hw1 (F (psNx T n p1)).2.2.2.2.1 (by omega) hPP.2.2.1 (-38)
            refine jr_istore_3 dX6_readAnd_40 (by decide) rfl ?_
            refine jr_aload_n dX6_readAnd_41 rfl ?_
            refine jr_bipush (-38) dX6_readAnd_42 (by decide) ?_
            refine jc_Vv (hAS) lkX6_102 (hw1.k rfl) rfl rfl (by omega) (Nat.le_of_ble_eq_true rfl) dX6_readAnd_44 (fun w_44 h_44 => ?_)
            refine jr_iinc_4 (nI (i + 1)) dX6_readAnd_47 (inc1 i) (by decide) rfl ?_
            refine jr_goto 10 dX6_readAnd_50 (by decide) ?_
            obtain ⟨q1, q2, q3⟩ := aS hT2 (by omega) hPP.2.2.1 h_44
            have h44 := h_44
            rw [show (-38 : Int32) = encF 2 p1.1.2.2.2.2 by rw [enc_2, ev]] at h44
            exact ih _ _ (i + 1) hP3 (by omega) (by rw [hx]; omega) (by rw [← e1]; exact d3) (by rw [← e2]; exact t3) (by rw [hx]; omega) q1 (aS_P hPP (by omega) h44) (hS2.tr q3) hK
          · have eL : psLp T n a0 opAn F (m + 1) p1 = (false, (F (psNx T n p1)).2) := by
              simp only [psLp]
              rw [if_pos ho, if_neg h1]
            rw [eL] at hK
            rw [jb_f h1] at er
            subst er
            obtain ⟨c, hc, h8⟩ := hc2
            have hAS := c_addStep g w2 hw1 c hc h8 (-38)
            refine jr_istore_3 dX6_readAnd_40 (by decide) rfl ?_
            refine jr_aload_n dX6_readAnd_41 rfl ?_
            refine jr_bipush (-38) dX6_readAnd_42 (by decide) ?_
            refine jc_Vv (hAS) lkX6_102 (hw1.k rfl) rfl rfl (by omega) (Nat.le_of_ble_eq_true rfl) dX6_readAnd_44 (fun w_44 h_44 => ?_)
            refine jr_iinc_4 (nI (i + 1)) dX6_readAnd_47 (inc1 i) (by decide) rfl ?_
            refine jr_goto 10 dX6_readAnd_50 (by decide) ?_
            obtain ⟨q1, q2, q3⟩ := aS hT2 hc h8 h_44
            exact L0 _ (i + 1) (by omega) (hK _ _ (jb_f' Bool.false_ne_true) q1 (fun h => absurd h Bool.false_ne_true) q2 (hS2.tr q3))
        refine jr_iload dX6_readAnd_10 rfl ?_
        refine jr_bipush (96) dX6_readAnd_12 (by decide) ?_
        refine jr_icmp_ge 53 dX6_readAnd_14 (by decide) (fun c_14 => absurd c_14 (by rw [jlit 96]; exact nI_ge (by omega) (by decide))) (fun c_14 => ?_)
        refine jr_iload_n dX6_readAnd_17 rfl ?_
        refine jr_if_eq 53 dX6_readAnd_18 (by decide) (fun c_18 => absurd c_18 (by decide)) (fun c_18 => ?_)
        refine jr_aload_n dX6_readAnd_21 rfl ?_
        refine jr_bipush (38) dX6_readAnd_22 (by decide) ?_
        refine jc_Vi (hSg) lkX6_85 (hw1.k rfl) rfl rfl (by omega) (Nat.le_of_ble_eq_true rfl) dX6_readAnd_24 (fun r_24 w_24 h_24 => ?_)
        obtain ⟨rfl, rfl⟩ := h_24
        refine jr_if_eq 53 dX6_readAnd_27 (by decide) (fun c_27 => absurd c_27 (jb_1.mpr ⟨h3, ev⟩)) (fun c_27 => ?_)
        refine jr_aload_n dX6_readAnd_30 rfl ?_
        refine jc_Vv (hAd) lkX6_47 (hw1.k rfl) rfl rfl (by omega) (Nat.le_of_ble_eq_true rfl) dX6_readAnd_31 (fun w_31 h_31 => ?_)
        obtain ⟨f2, rfl, hT2, ho2⟩ := h_31
        refine jr_aload_n dX6_readAnd_34 rfl ?_
        refine jr_iload_n dX6_readAnd_35 rfl ?_
        refine jr_iload_n dX6_readAnd_36 rfl ?_
        refine jc_Vi (hsub _ (hw1.sR _ _) (psNx T n p1) D U e1 e2 hq hf hT2 (hP1.nx ho2)) lkX6_106 (hw1.k rfl) rfl rfl (by omega) (Nat.le_of_ble_eq_true rfl) dX6_readAnd_37 (fun r_37 w_37 h_37 => ?_)
        obtain ⟨er, z1, z2, z3, z4⟩ := h_37
        exact K40 _ _ er z1 z2 z3 ((hS.tr (Sm.sR (Or.inl rfl))).tr z4)
      · have eL : psLp T n a0 opAn F (m + 1) p1 = (true, p1) := by
          simp only [psLp]
          rw [if_neg ho]
        rw [eL] at hK
        have hlb : p1.2.2.2.1 ≤ 96 := by
          have a1 := hp1.2.2.2
          have a3 := hp1.1.1
          have a4 := hp1.1.2.1
          omega
        have fin : Q (some (.int 1)) w1 := hK _ _ (jb_t' rfl) hT1 (fun _ => hP1) ⟨_, hlb, hP1.2.2.1⟩ hS
        refine jr_iload dX6_readAnd_10 rfl ?_
        refine jr_bipush (96) dX6_readAnd_12 (by decide) ?_
        refine jr_icmp_ge 53 dX6_readAnd_14 (by decide) (fun c_14 => ?_) (fun c_14 => ?_)
        · simp only [lt_i, le_i, eq_i, Int32.reduceToInt] at c_14
          refine jr_iload_n dX6_readAnd_53 rfl ?_
          refine jr_zret rfl (by decide) dX6_readAnd_54 ?_
          exact fin
        · simp only [lt_i, le_i, eq_i, Int32.reduceToInt] at c_14
          refine jr_iload_n dX6_readAnd_17 rfl ?_
          refine jr_if_eq 53 dX6_readAnd_18 (by decide) (fun c_18 => ?_) (fun c_18 => ?_)
          · simp only [lt_i, le_i, eq_i, Int32.reduceToInt] at c_18
            refine jr_iload_n dX6_readAnd_53 rfl ?_
            refine jr_zret rfl (by decide) dX6_readAnd_54 ?_
            exact fin
          · simp only [lt_i, le_i, eq_i, Int32.reduceToInt] at c_18
            refine jr_aload_n dX6_readAnd_21 rfl ?_
            refine jr_bipush (38) dX6_readAnd_22 (by decide) ?_
            refine jc_Vi (hSg) lkX6_85 (hw1.k rfl) rfl rfl (by omega) (Nat.le_of_ble_eq_true rfl) dX6_readAnd_24 (fun r_24 w_24 h_24 => ?_)
            obtain ⟨rfl, rfl⟩ := h_24
            refine jr_if_eq 53 dX6_readAnd_27 (by decide) (fun c_27 => ?_) (fun c_27 => ?_)
            · rw [jb_0] at c_27
              refine jr_iload_n dX6_readAnd_53 rfl ?_
              refine jr_zret rfl (by decide) dX6_readAnd_54 ?_
              exact fin
            · rw [jb_1] at c_27
              exfalso; exact ho (decide_eq_true c_27)
  obtain ⟨g1, g2, g3⟩ := hG p hp
  have K6 : ∀ w2 r, r = jb ((F p).1 = true) → CsT w2 T n (F p).2.1 → ((F p).1 = true → CsP w2 key a0 (F p).2) → (∃ c, c ≤ 96 ∧ wI w2 43 8 = nI c) → Sm scRd w w2 → RR g RX6 cX6_readAnd 5 (some .boolean) "readAnd" (d + 1) 0 0 0 0 6 [some (.ref (gb g + 43)), some (.int (nI D)), some (.int (nI U)), none, none] [.int r] w2 Q := by
    intro w2 r er hT2 hP2 hc2 hS2
    by_cases h1 : (F p).1 = true
    · obtain ⟨w3, d3, t3⟩ := g3 h1
      have hq : PI T n B (F p).2 := hp.to w3 (by omega) g1 (by rw [d3]; exact hp.2.1) (by rw [t3]; exact hp.2.2.1)
      have hdd := w3.2.2.2.2
      have eB : psBi T n a0 opAn F p = psLp T n a0 opAn F 97 (F p).2 := by
        rw [psBi, if_pos h1]
      rw [jb_t h1] at er
      subst er
      refine jr_istore_3 dX6_readAnd_6 (by decide) rfl ?_
      refine jr_iconst (0) dX6_readAnd_7 (by decide) ?_
      refine jr_istore_4 dX6_readAnd_8 (by decide) rfl ?_
      exact L 97 _ _ 0 hq (by omega) (by omega) (by rw [d3]; exact eD) (by rw [t3]; exact eU) (Nat.zero_le _) hT2 (hP2 h1) hS2 (fun r w' a1 a2 a3 a4 a5 => hQ _ _ ⟨by rw [eB]; exact a1, by rw [eB]; exact a2, by rw [eB]; exact a3, a4, a5⟩)
    · have eB : psBi T n a0 opAn F p = (false, (F p).2) := by
        rw [psBi, if_neg h1]
      rw [jb_f h1] at er
      subst er
      refine jr_istore_3 dX6_readAnd_6 (by decide) rfl ?_
      refine jr_iconst (0) dX6_readAnd_7 (by decide) ?_
      refine jr_istore_4 dX6_readAnd_8 (by decide) rfl ?_
      exact L0 _ 0 (by omega) (hQ _ _ ⟨by rw [eB]; exact jb_f' Bool.false_ne_true, by rw [eB]; exact hT2, by rw [eB]; exact fun h => absurd h Bool.false_ne_true, hc2, hS2⟩)
  refine jr_aload_n dX6_readAnd_0 rfl ?_
  refine jr_iload_n dX6_readAnd_1 rfl ?_
  refine jr_iload_n dX6_readAnd_2 rfl ?_
  refine jc_Vi (hsub _ hw p D U eD eU hp hf hT hP) lkX6_106 (hw.k rfl) rfl rfl (by omega) (Nat.le_of_ble_eq_true rfl) dX6_readAnd_3 (fun r_3 w_3 h_3 => ?_)
  obtain ⟨er, z1, z2, z3, z4⟩ := h_3
  exact K6 _ _ er z1 z2 z3 z4
theorem c_readOr (g : Cx) {T : Nat → Int32} {n B a0 key f d : Nat} {F : PS → Bool × PS} (hn : n ≤ 96) (hTB : TpB T n) (hB : B ≤ 93) (hd : 6 ≤ d) (hG : Go T n key a0 B F) (hsub : RcC g yX6_readAnd cX6_readAnd 5 T n B a0 key f d F) : RcC g yX6_readOr cX6_readOr 5 T n B a0 key f (d + 1) (psBi T n a0 opOr F) := by
  intro w hw p D U eD eU hp hf hT hP
  refine CI.of (own := RX6) (nm := "readOr") (lv := [some (.ref (gb g + 43)), some (.int (nI D)), some (.int (nI U)), none, none]) (by decide) rfl rfl (Nat.le_of_ble_eq_true rfl) rfl (fun Q hQ => ?_)
  have L0 : ∀ (w1 : Wd) (i : Nat), i ≤ 97 → Q (some (.int 0)) w1 → RR g RX6 cX6_readOr 5 (some .boolean) "readOr" (d + 1) 0 0 0 0 10 [some (.ref (gb g + 43)), some (.int (nI D)), some (.int (nI U)), some (.int 0), some (.int (nI i))] [] w1 Q := by
    intro w1 i hi hq
    refine jr_iload dX6_readOr_10 rfl ?_
    refine jr_bipush (96) dX6_readOr_12 (by decide) ?_
    refine jr_icmp_ge 53 dX6_readOr_14 (by decide) (fun c_14 => ?_) (fun c_14 => ?_)
    · simp only [lt_i, le_i, eq_i, Int32.reduceToInt] at c_14
      refine jr_iload_n dX6_readOr_53 rfl ?_
      refine jr_zret rfl (by decide) dX6_readOr_54 ?_
      exact hq
    · simp only [lt_i, le_i, eq_i, Int32.reduceToInt] at c_14
      refine jr_iload_n dX6_readOr_17 rfl ?_
      refine jr_if_eq 53 dX6_readOr_18 (by decide) (fun c_18 => ?_) (fun c_18 => absurd (by decide) c_18)
      refine jr_iload_n dX6_readOr_53 rfl ?_
      refine jr_zret rfl (by decide) dX6_readOr_54 ?_
      exact hq
  have L : ∀ (m : Nat) (p1 : PS) (w1 : Wd) (i : Nat), PI T n B p1 → 1 ≤ dpG p1.2.2.2.2.2 a0 p1.2.2.2.1 → n < m + p1.1.1 → p1.2.1 = D → p1.2.2.1 = U → i ≤ p1.1.1 → CsT w1 T n p1.1 → CsP w1 key a0 p1 → Sm scRd w w1 → (∀ r w', r = jb ((psLp T n a0 opOr F m p1).1 = true) → CsT w' T n (psLp T n a0 opOr F m p1).2.1 → ((psLp T n a0 opOr F m p1).1 = true → CsP w' key a0 (psLp T n a0 opOr F m p1).2) → (∃ c, c ≤ 96 ∧ wI w' 43 8 = nI c) → Sm scRd w w' → Q (some (.int r)) w') → RR g RX6 cX6_readOr 5 (some .boolean) "readOr" (d + 1) 0 0 0 0 10 [some (.ref (gb g + 43)), some (.int (nI D)), some (.int (nI U)), some (.int 1), some (.int (nI i))] [] w1 Q := by
    intro m
    induction m with
    | zero =>
      intro p1 w1 i hp1 hd1 hm e1 e2 hi hT1 hP1 hS hK
      have := hp1.1.1
      have := hp1.1.2.1
      omega
    | succ m ih =>
      intro p1 w1 i hp1 hd1 hm e1 e2 hi hT1 hP1 hS hK
      have hw1 := hS.wf hw
      have hi96 : i ≤ 96 := by
        have := hp1.1.1
        have := hp1.1.2.1
        omega
      have hSg := c_rSign g w1 hw1 T n hn hTB p1.1 hT1 hp1.1 124 (by decide)
      by_cases ho : opOr p1 = true
      · obtain ⟨h3, hv⟩ := opOr_s p1 ho
        have ev : p1.1.2.2.2.2 = 124 := (of_decide_eq_true ho).2
        obtain ⟨hq, s1, s2, s3⟩ := Lp_one hG hp1 h3 hv hd1
        have htb := (hp1.1.2.2.1 (by rw [h3]; decide))
        have hte := hp1.1.1
        have hAd := ad_c (g := g) hw1 hn hTB hT1 hp1.1
        have K40 : ∀ w2 r, r = jb ((F (psNx T n p1)).1 = true) → CsT w2 T n (F (psNx T n p1)).2.1 → ((F (psNx T n p1)).1 = true → CsP w2 key a0 (F (psNx T n p1)).2) → (∃ c, c ≤ 96 ∧ wI w2 43 8 = nI c) → Sm scRd w w2 → RR g RX6 cX6_readOr 5 (some .boolean) "readOr" (d + 1) 0 0 0 0 40 [some (.ref (gb g + 43)), some (.int (nI D)), some (.int (nI U)), some (.int 1), some (.int (nI i))] [.int r] w2 Q := by
          intro w2 r er hT2 hP2 hc2 hS2
          have hw1 := hS2.wf hw
          by_cases h1 : (F (psNx T n p1)).1 = true
          · obtain ⟨v2, hB2, v3, hP3, d3, t3⟩ := s3 h1
            have eL : psLp T n a0 opOr F (m + 1) p1 = psLp T n a0 opOr F m (psSt a0 2 p1.1.2.2.2.2 (F (psNx T n p1)).2) := by
              simp only [psLp]
              rw [if_pos ho, if_pos h1]
            rw [eL] at hK
            rw [jb_t h1] at er
            subst er
            have hPP := hP2 h1
            have hg := v3.2.1
            have hg1 := v3.1
            have hg2 := v2.2.1
            have hg3 := v2.1
            have hdd := v3.2.2.2.2
            have hx : (psSt a0 2 p1.1.2.2.2.2 (F (psNx T n p1)).2).1.1 = (F (psNx T n p1)).2.1.1 := rfl
            have hAS := c_addStep g w2 hw1 (F (psNx T n p1)).2.2.2.2.1 (by omega) hPP.2.2.1 (-124)
            refine jr_istore_3 dX6_readOr_40 (by decide) rfl ?_
            refine jr_aload_n dX6_readOr_41 rfl ?_
            refine jr_bipush (-124) dX6_readOr_42 (by decide) ?_
            refine jc_Vv (hAS) lkX6_102 (hw1.k rfl) rfl rfl (by omega) (Nat.le_of_ble_eq_true rfl) dX6_readOr_44 (fun w_44 h_44 => ?_)
            refine jr_iinc_4 (nI (i + 1)) dX6_readOr_47 (inc1 i) (by decide) rfl ?_
            refine jr_goto 10 dX6_readOr_50 (by decide) ?_
            obtain ⟨q1, q2, q3⟩ := aS hT2 (by omega) hPP.2.2.1 h_44
            have h44 := h_44
            rw [show (-124 : Int32) = encF 2 p1.1.2.2.2.2 by rw [enc_2, ev]] at h44
            exact ih _ _ (i + 1) hP3 (by omega) (by rw [hx]; omega) (by rw [← e1]; exact d3) (by rw [← e2]; exact t3) (by rw [hx]; omega) q1 (aS_P hPP (by omega) h44) (hS2.tr q3) hK
          · have eL : psLp T n a0 opOr F (m + 1) p1 = (false, (F (psNx T n p1)).2) := by
              simp only [psLp]
              rw [if_pos ho, if_neg h1]
            rw [eL] at hK
            rw [jb_f h1] at er
            subst er
            obtain ⟨c, hc, h8⟩ := hc2
            have hAS := c_addStep g w2 hw1 c hc h8 (-124)
            refine jr_istore_3 dX6_readOr_40 (by decide) rfl ?_
            refine jr_aload_n dX6_readOr_41 rfl ?_
            refine jr_bipush (-124) dX6_readOr_42 (by decide) ?_
            refine jc_Vv (hAS) lkX6_102 (hw1.k rfl) rfl rfl (by omega) (Nat.le_of_ble_eq_true rfl) dX6_readOr_44 (fun w_44 h_44 => ?_)
            refine jr_iinc_4 (nI (i + 1)) dX6_readOr_47 (inc1 i) (by decide) rfl ?_
            refine jr_goto 10 dX6_readOr_50 (by decide) ?_
            obtain ⟨q1, q2, q3⟩ := aS hT2 hc h8 h_44
            exact L0 _ (i + 1) (by omega) (hK _ _ (jb_f' Bool.false_ne_true) q1 (fun h => absurd h Bool.false_ne_true) q2 (hS2.tr q3))
        refine jr_iload dX6_readOr_10 rfl ?_
        refine jr_bipush (96) dX6_readOr_12 (by decide) ?_
        refine jr_icmp_ge 53 dX6_readOr_14 (by decide) (fun c_14 => absurd c_14 (by rw [jlit 96]; exact nI_ge (by omega) (by decide))) (fun c_14 => ?_)
        refine jr_iload_n dX6_readOr_17 rfl ?_
        refine jr_if_eq 53 dX6_readOr_18 (by decide) (fun c_18 => absurd c_18 (by decide)) (fun c_18 => ?_)
        refine jr_aload_n dX6_readOr_21 rfl ?_
        refine jr_bipush (124) dX6_readOr_22 (by decide) ?_
        refine jc_Vi (hSg) lkX6_85 (hw1.k rfl) rfl rfl (by omega) (Nat.le_of_ble_eq_true rfl) dX6_readOr_24 (fun r_24 w_24 h_24 => ?_)
        obtain ⟨rfl, rfl⟩ := h_24
        refine jr_if_eq 53 dX6_readOr_27 (by decide) (fun c_27 => absurd c_27 (jb_1.mpr ⟨h3, ev⟩)) (fun c_27 => ?_)
        refine jr_aload_n dX6_readOr_30 rfl ?_
        refine jc_Vv (hAd) lkX6_47 (hw1.k rfl) rfl rfl (by omega) (Nat.le_of_ble_eq_true rfl) dX6_readOr_31 (fun w_31 h_31 => ?_)
        obtain ⟨f2, rfl, hT2, ho2⟩ := h_31
        refine jr_aload_n dX6_readOr_34 rfl ?_
        refine jr_iload_n dX6_readOr_35 rfl ?_
        refine jr_iload_n dX6_readOr_36 rfl ?_
        refine jc_Vi (hsub _ (hw1.sR _ _) (psNx T n p1) D U e1 e2 hq hf hT2 (hP1.nx ho2)) lkX6_99 (hw1.k rfl) rfl rfl (by omega) (Nat.le_of_ble_eq_true rfl) dX6_readOr_37 (fun r_37 w_37 h_37 => ?_)
        obtain ⟨er, z1, z2, z3, z4⟩ := h_37
        exact K40 _ _ er z1 z2 z3 ((hS.tr (Sm.sR (Or.inl rfl))).tr z4)
      · have eL : psLp T n a0 opOr F (m + 1) p1 = (true, p1) := by
          simp only [psLp]
          rw [if_neg ho]
        rw [eL] at hK
        have hlb : p1.2.2.2.1 ≤ 96 := by
          have a1 := hp1.2.2.2
          have a3 := hp1.1.1
          have a4 := hp1.1.2.1
          omega
        have fin : Q (some (.int 1)) w1 := hK _ _ (jb_t' rfl) hT1 (fun _ => hP1) ⟨_, hlb, hP1.2.2.1⟩ hS
        refine jr_iload dX6_readOr_10 rfl ?_
        refine jr_bipush (96) dX6_readOr_12 (by decide) ?_
        refine jr_icmp_ge 53 dX6_readOr_14 (by decide) (fun c_14 => ?_) (fun c_14 => ?_)
        · simp only [lt_i, le_i, eq_i, Int32.reduceToInt] at c_14
          refine jr_iload_n dX6_readOr_53 rfl ?_
          refine jr_zret rfl (by decide) dX6_readOr_54 ?_
          exact fin
        · simp only [lt_i, le_i, eq_i, Int32.reduceToInt] at c_14
          refine jr_iload_n dX6_readOr_17 rfl ?_
          refine jr_if_eq 53 dX6_readOr_18 (by decide) (fun c_18 => ?_) (fun c_18 => ?_)
          · simp only [lt_i, le_i, eq_i, Int32.reduceToInt] at c_18
            refine jr_iload_n dX6_readOr_53 rfl ?_
            refine jr_zret rfl (by decide) dX6_readOr_54 ?_
            exact fin
          · simp only [lt_i, le_i, eq_i, Int32.reduceToInt] at c_18
            refine jr_aload_n dX6_readOr_21 rfl ?_
            refine jr_bipush (124) dX6_readOr_22 (by decide) ?_
            refine jc_Vi (hSg) lkX6_85 (hw1.k rfl) rfl rfl (by omega) (Nat.le_of_ble_eq_true rfl) dX6_readOr_24 (fun r_24 w_24 h_24 => ?_)
            obtain ⟨rfl, rfl⟩ := h_24
            refine jr_if_eq 53 dX6_readOr_27 (by decide) (fun c_27 => ?_) (fun c_27 => ?_)
            · rw [jb_0] at c_27
              refine jr_iload_n dX6_readOr_53 rfl ?_
              refine jr_zret rfl (by decide) dX6_readOr_54 ?_
              exact fin
            · rw [jb_1] at c_27
              exfalso; exact ho (decide_eq_true c_27)
  obtain ⟨g1, g2, g3⟩ := hG p hp
  have K6 : ∀ w2 r, r = jb ((F p).1 = true) → CsT w2 T n (F p).2.1 → ((F p).1 = true → CsP w2 key a0 (F p).2) → (∃ c, c ≤ 96 ∧ wI w2 43 8 = nI c) → Sm scRd w w2 → RR g RX6 cX6_readOr 5 (some .boolean) "readOr" (d + 1) 0 0 0 0 6 [some (.ref (gb g + 43)), some (.int (nI D)), some (.int (nI U)), none, none] [.int r] w2 Q := by
    intro w2 r er hT2 hP2 hc2 hS2
    by_cases h1 : (F p).1 = true
    · obtain ⟨w3, d3, t3⟩ := g3 h1
      have hq : PI T n B (F p).2 := hp.to w3 (by omega) g1 (by rw [d3]; exact hp.2.1) (by rw [t3]; exact hp.2.2.1)
      have hdd := w3.2.2.2.2
      have eB : psBi T n a0 opOr F p = psLp T n a0 opOr F 97 (F p).2 := by
        rw [psBi, if_pos h1]
      rw [jb_t h1] at er
      subst er
      refine jr_istore_3 dX6_readOr_6 (by decide) rfl ?_
      refine jr_iconst (0) dX6_readOr_7 (by decide) ?_
      refine jr_istore_4 dX6_readOr_8 (by decide) rfl ?_
      exact L 97 _ _ 0 hq (by omega) (by omega) (by rw [d3]; exact eD) (by rw [t3]; exact eU) (Nat.zero_le _) hT2 (hP2 h1) hS2 (fun r w' a1 a2 a3 a4 a5 => hQ _ _ ⟨by rw [eB]; exact a1, by rw [eB]; exact a2, by rw [eB]; exact a3, a4, a5⟩)
    · have eB : psBi T n a0 opOr F p = (false, (F p).2) := by
        rw [psBi, if_neg h1]
      rw [jb_f h1] at er
      subst er
      refine jr_istore_3 dX6_readOr_6 (by decide) rfl ?_
      refine jr_iconst (0) dX6_readOr_7 (by decide) ?_
      refine jr_istore_4 dX6_readOr_8 (by decide) rfl ?_
      exact L0 _ 0 (by omega) (hQ _ _ ⟨by rw [eB]; exact jb_f' Bool.false_ne_true, by rw [eB]; exact hT2, by rw [eB]; exact fun h => absurd h Bool.false_ne_true, hc2, hS2⟩)
  refine jr_aload_n dX6_readOr_0 rfl ?_
  refine jr_iload_n dX6_readOr_1 rfl ?_
  refine jr_iload_n dX6_readOr_2 rfl ?_
  refine jc_Vi (hsub _ hw p D U eD eU hp hf hT hP) lkX6_99 (hw.k rfl) rfl rfl (by omega) (Nat.le_of_ble_eq_true rfl) dX6_readOr_3 (fun r_3 w_3 h_3 => ?_)
  obtain ⟨er, z1, z2, z3, z4⟩ := h_3
  exact K6 _ _ er z1 z2 z3 z4
