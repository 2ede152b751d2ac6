-- the class's reader: a text of the tape
theorem wf43 {w : Wd} (hw : Wf w) (x : Option Nat) : Wf (sP w 43 (uF (wF w 43) 0 x)) := by
  refine ⟨fun a kd n e => hw.1 a kd n e, fun a k b e => ?_⟩
  by_cases h : a = 43
  · subst h
    by_cases h0 : k = 0
    · subst h0
      cases e
    · rw [wF_sP_s, uF_n _ _ h0]
      exact hw.f e
  · rw [wF_sP_n _ h]
    exact hw.f e
theorem c_readText (g : Cx) (w : Wd) (hw : Wf w) (T : Nat → Int32) (n : Nat) (hn : n ≤ 96) (hTB : TpB T n) (hB : ∀ j, j < n → wI w 46 j = sx8 (T j)) (nu le : Int32) (s : Nat → Int32) : CI g yX6_readText cX6_readText 3 (some .boolean) 141 0 0 [.ref (gb g + 43), .ref (gb g + 46), .int (nI n)] w
    (fun r w' => r = jb ((prF T n nu le s).1 = true) ∧ wI w' 43 3 = nI (prF T n nu le s).2.1.1 ∧ ((prF T n nu le s).1 = true → ∃ key, key ≤ 2 ∧ kyF T n nu le = nI key ∧ CsP w' key (at0F s) (prF T n nu le s).2) ∧ Sm scRd (sP w 43 (uF (wF w 43) 0 (some 46))) w') := by
  refine CI.of (own := RX6) (nm := "readText") (lv := [some (.ref (gb g + 43)), some (.ref (gb g + 46)), some (.int (nI n))]) (by decide) rfl rfl (Nat.le_of_ble_eq_true rfl) rfl (fun Q hQ => ?_)
  have hw0 := wf43 hw (some 46)
  obtain ⟨w0, ew0⟩ : ∃ w0, w0 = sP w 43 (uF (wF w 43) 0 (some 46)) := ⟨_, rfl⟩
  have r0 : wI w0 = wI w := by rw [ew0]; rfl
  have f0 : wF w0 43 0 = some 46 := by rw [ew0, wF_sP_s, uF_s]
  rw [← ew0] at hw0 hQ
  obtain ⟨F1, eF1⟩ : ∃ F, F = upd (upd (upd (upd (upd (wI w 43) 1 (nI n)) 2 0) 4 0) 6 0) 8 0 := ⟨_, rfl⟩
  have g1 : F1 1 = nI n := by rw [eF1, pk_un (by decide), pk_un (by decide), pk_un (by decide), pk_un (by decide), pk_us]
  have g2 : F1 2 = 0 := by rw [eF1, pk_un (by decide), pk_un (by decide), pk_un (by decide), pk_us]
  have g4 : F1 4 = nI 0 := by rw [eF1, pk_un (by decide), pk_un (by decide), pk_us]; rfl
  have g6 : F1 6 = nI 0 := by rw [eF1, pk_un (by decide), pk_us]; rfl
  have g8 : F1 8 = nI 0 := by rw [eF1, pk_us]; rfl
  have hB1 : CsB (sR w0 43 F1) T n := ⟨f0, by rw [wI_sR_s]; exact g1, fun j hj => by rw [wI_sR_n _ (by decide), r0]; exact hB j hj⟩
  have hAd := c_advance g (sR w0 43 F1) (hw0.sR _ _) T n hn hTB hB1 (0, 0, 3, nu, le) (Nat.zero_le _) (by rw [wI_sR_s]; exact g4) (by rw [wI_sR_s, g2]; exact ⟨fun h => absurd h (by decide), fun h => absurd h.1 (Nat.lt_irrefl 0)⟩)
  have ek1 : tokF T n (0, 0, 3, nu, le) = k1F T n nu le := rfl
  have emin : (if (nI 96).toInt < (nI n).toInt then nI 96 else nI n) = nI n := if_neg (by rw [i_nI (by omega), i_nI (by omega)]; omega)
  have K39 : ∀ f2, CsT (sR w0 43 f2) T n (k1F T n nu le) → f2 6 = nI 0 → f2 8 = nI 0 → RR g RX6 cX6_readText 3 (some .boolean) "readText" 141 0 0 0 0 39 [some (.ref (gb g + 43)), some (.ref (gb g + 46)), some (.int (nI n))] [] (sR w0 43 f2) Q := by
    intro f2 hT2 q6 q8
    have hRK := c_readKey g (sR w0 43 f2) (hw0.sR _ _) T n hn hTB (k1F T n nu le) hT2 k1_I
    have K43a : kyF T n nu le = -1 → RR g RX6 cX6_readText 3 (some .boolean) "readText" 141 0 0 0 0 43 [some (.ref (gb g + 43)), some (.ref (gb g + 46)), some (.int (nI n))] [.int 0] (sR w0 43 f2) Q := by
      intro hky
      have epr : prF T n nu le s = (false, p1F T n nu le s) := by
        rw [prF, if_pos (by rw [hky]; decide)]
      refine jr_if_ne 48 dX6_readText_43 (by decide) (fun c_43 => absurd (by decide) c_43) (fun c_43 => ?_)
      refine jr_iconst (0) dX6_readText_46 (by decide) ?_
      refine jr_zret rfl (by decide) dX6_readText_47 ?_
      refine hQ _ _ ⟨by rw [epr]; exact jb_f' Bool.false_ne_true, by rw [epr]; exact hT2.2.2.1, by rw [epr]; exact fun h => absurd h Bool.false_ne_true, Sm.sR (Or.inl rfl)⟩
    have K43b : ∀ (key : Nat) (f3 : Nat → Int32), key ≤ 2 → kyF T n nu le = nI key → CsT (sR w0 43 f3) T n (tokF T n (k1F T n nu le)) → f3 5 = nI key → f3 6 = nI 0 → f3 8 = nI 0 → RR g RX6 cX6_readText 3 (some .boolean) "readText" 141 0 0 0 0 43 [some (.ref (gb g + 43)), some (.ref (gb g + 46)), some (.int (nI n))] [.int 1] (sR w0 43 f3) Q := by
      intro key f3 hk2 hky hT3 p5 p6 p8
      have hnl : ¬ (kyF T n nu le).toInt < 0 := by rw [hky, i_nI (by omega)]; omega
      have h3 : 3 ≤ (k1F T n nu le).2.1 - (k1F T n nu le).1 := by
        rcases ky_c T n nu le with e | ⟨key', a1, a2, a3, a4⟩
        · rw [e] at hnl
          exact absurd (by decide) hnl
        · exact a3
      have hPI := p1_I (s := s) hn h3
      have hP3 : CsP (sR w0 43 f3) key (at0F s) (psNx T n (p1F T n nu le s)) := ⟨by rw [wI_sR_s]; exact p5, by rw [wI_sR_s]; exact p6, by rw [wI_sR_s]; exact p8, fun k hk => absurd hk (Nat.not_lt_zero _)⟩
      have hC := c_readOrW g (T := T) (n := n) (B := 93) (a0 := at0F s) (key := key) hn hTB (by omega) hk2 (sR w0 43 f3) (hw0.sR _ _) (psNx T n (p1F T n nu le s)) 0 0 rfl rfl hPI (by omega) hT3 hP3
      obtain ⟨r, er⟩ : ∃ r, r = psEi T n (at0F s) (psPt T n (at0F s) (nI key) 17) (psNx T n (p1F T n nu le s)) := ⟨_, rfl⟩
      have epr : prF T n nu le s = (r.1 && decide (r.2.1.2.2.1 = 0), r.2) := by
        rw [prF, if_neg hnl, eiF, hky, ← er]
      rw [← er] at hC
      have M : ∀ w2, CsT w2 T n r.2.1 → (r.1 = true → CsP w2 key (at0F s) r.2) → Sm scRd w0 w2 → RR g RX6 cX6_readText 3 (some .boolean) "readText" 141 0 0 0 0 54 [some (.ref (gb g + 43)), some (.ref (gb g + 46)), some (.int (nI n))] [.int (jb (r.1 = true))] w2 Q := by
        intro w2 hT4 hP4 hS4
        have hw2 := hS4.wf hw0
        rw [epr] at hQ
        by_cases hb : r.1 = true
        · by_cases hc : r.2.1.2.2.1 = 0
          · have e9 : (r.1 && decide (r.2.1.2.2.1 = 0)) = true := by rw [hb, decide_eq_true hc]; rfl
            refine jr_if_eq 68 dX6_readText_54 (by decide) (fun c_54 => absurd c_54 (jb_1.mpr hb)) (fun c_54 => ?_)
            refine jr_aload_n dX6_readText_57 rfl ?_
            refine gfX6_19 dX6_readText_58 (hw2.k rfl) ?_
            rw [hT4.2.1]
            refine jr_if_ne 68 dX6_readText_61 (by decide) (fun c_61 => absurd (kmC_0.mpr hc) c_61) (fun c_61 => ?_)
            refine jr_iconst (1) dX6_readText_64 (by decide) ?_
            refine jr_goto 69 dX6_readText_65 (by decide) ?_
            refine jr_zret rfl (by decide) dX6_readText_69 ?_
            exact hQ _ _ ⟨(jb_t e9).symm, hT4.2.2.1, fun _ => ⟨key, hk2, hky, hP4 hb⟩, hS4⟩
          · have e9 : ¬ (r.1 && decide (r.2.1.2.2.1 = 0)) = true := by rw [decide_eq_false hc, Bool.and_false]; exact Bool.false_ne_true
            refine jr_if_eq 68 dX6_readText_54 (by decide) (fun c_54 => absurd c_54 (jb_1.mpr hb)) (fun c_54 => ?_)
            refine jr_aload_n dX6_readText_57 rfl ?_
            refine gfX6_19 dX6_readText_58 (hw2.k rfl) ?_
            rw [hT4.2.1]
            refine jr_if_ne 68 dX6_readText_61 (by decide) (fun c_61 => ?_) (fun c_61 => absurd c_61 (fun h => hc (kmC_0.mp h)))
            refine jr_iconst (0) dX6_readText_68 (by decide) ?_
            refine jr_zret rfl (by decide) dX6_readText_69 ?_
            exact hQ _ _ ⟨(jb_f e9).symm, hT4.2.2.1, fun h => absurd h e9, hS4⟩
        · have e9 : ¬ (r.1 && decide (r.2.1.2.2.1 = 0)) = true := fun h => hb (Bool.and_eq_true_iff.mp h).1
          refine jr_if_eq 68 dX6_readText_54 (by decide) (fun c_54 => ?_) (fun c_54 => absurd (jb_f hb) c_54)
          refine jr_iconst (0) dX6_readText_68 (by decide) ?_
          refine jr_zret rfl (by decide) dX6_readText_69 ?_
          exact hQ _ _ ⟨(jb_f e9).symm, hT4.2.2.1, fun h => absurd h e9, hS4⟩
      have hw3 := hw0.sR 43 f3
      refine jr_if_ne 48 dX6_readText_43 (by decide) (fun c_43 => ?_) (fun c_43 => absurd c_43 (by decide))
      refine jr_aload_n dX6_readText_48 rfl ?_
      refine jr_iconst (0) dX6_readText_49 (by decide) ?_
      refine jr_iconst (0) dX6_readText_50 (by decide) ?_
      refine jc_Vi (hC) lkX6_54 (hw3.k rfl) rfl rfl (Nat.le_of_ble_eq_true rfl) (Nat.le_of_ble_eq_true rfl) dX6_readText_51 (fun r_51 w_51 h_51 => ?_)
      obtain ⟨rfl, z1, z2, z3, z4⟩ := h_51
      exact M _ z1 z2 ((Sm.sR (Or.inl rfl)).tr z4)
    have hw4 := hw0.sR 43 f2
    refine jr_aload_n dX6_readText_39 rfl ?_
    refine jc_Vi (hRK) lkX6_50 (hw4.k rfl) rfl rfl (Nat.le_of_ble_eq_true rfl) (Nat.le_of_ble_eq_true rfl) dX6_readText_40 (fun r_40 w_40 h_40 => ?_)
    rcases h_40 with ⟨a1, rfl, rfl⟩ | ⟨key, f3, a1, a2, rfl, rfl, a3, a4, a5, a6⟩
    · exact K43a a1
    · rw [wI_sR_s] at a5 a6
      rw [sR_sR] at a3
      rw [sR_sR]
      exact K43b key f3 a1 a2 a3 a4 (a5.trans q6) (a6.trans q8)
  refine jr_aload_n dX6_readText_0 rfl ?_
  refine jr_aload_n dX6_readText_1 rfl ?_
  refine pfX6_9 dX6_readText_2 (hw.k rfl) ?_
  rw [← ew0]
  refine jr_aload_n dX6_readText_5 rfl ?_
  refine jr_iload_n dX6_readText_6 rfl ?_
  refine jr_aload_n dX6_readText_7 rfl ?_
  refine jr_alen (by exact hw0.k rfl) (by decide) dX6_readText_8 ?_
  refine jc_Si (c_min g _ _ _) lkX6_41 rfl rfl (Nat.le_of_ble_eq_true rfl) (Nat.le_of_ble_eq_true rfl) dX6_readText_9 (fun r_9 w_9 h_9 => ?_)
  obtain ⟨rfl, rfl⟩ := h_9
  rw [emin]
  refine pfX6_15 dX6_readText_12 (hw0.k rfl) ?_
  rw [r0]
  refine jr_aload_n dX6_readText_15 rfl ?_
  refine jr_iconst (0) dX6_readText_16 (by decide) ?_
  refine pfX6_19 dX6_readText_17 (hw0.k rfl) ?_
  rw [sR_sR, wI_sR_s]
  refine jr_aload_n dX6_readText_20 rfl ?_
  refine jr_iconst (0) dX6_readText_21 (by decide) ?_
  refine pfX6_25 dX6_readText_22 (hw0.k rfl) ?_
  rw [sR_sR, wI_sR_s]
  refine jr_aload_n dX6_readText_25 rfl ?_
  refine jr_iconst (0) dX6_readText_26 (by decide) ?_
  refine pfX6_31 dX6_readText_27 (hw0.k rfl) ?_
  rw [sR_sR, wI_sR_s]
  refine jr_aload_n dX6_readText_30 rfl ?_
  refine jr_iconst (0) dX6_readText_31 (by decide) ?_
  refine pfX6_38 dX6_readText_32 (hw0.k rfl) ?_
  rw [sR_sR, wI_sR_s, ← eF1]
  refine jr_aload_n dX6_readText_35 rfl ?_
  refine jc_Vv (hAd) lkX6_47 (hw0.k rfl) rfl rfl (Nat.le_of_ble_eq_true rfl) (Nat.le_of_ble_eq_true rfl) dX6_readText_36 (fun w_36 h_36 => ?_)
  obtain ⟨f2, rfl, hT2, ho2⟩ := h_36
  rw [sR_sR] at hT2
  rw [wI_sR_s] at ho2
  rw [sR_sR]
  exact K39 f2 hT2 ((ho2 6 (by decide) (by decide) (by decide)).trans g6) ((ho2 8 (by decide) (by decide) (by decide)).trans g8)
