-- the reference's reader: a part, and so a whole text
theorem PsR.sa {w : Wd} {T : Nat → Int32} {n at0 : Nat} {p : PS} (h : PsR w T n at0 p) : PsR (sR w 78 (upd (wI w 78) 25 (nI (p.2.2.2.2.1 + 1)))) T n at0 (psSa p) := by
  obtain ⟨a1, a2, ⟨t1, t2, t3, t4, t5⟩, a4, a5, a6, a7, a8, a9⟩ := h
  refine ⟨?_, ?_, ⟨?_, ?_, ?_, ?_, ?_⟩, ?_, ?_, ?_, ?_, ?_, ?_⟩
  · rw [wI_sR_n _ (by decide)]; exact a1
  · rw [wI_sR_s, pk_un (by decide)]; exact a2
  · rw [wI_sR_s, pk_un (by decide)]; exact t1
  · rw [wI_sR_s, pk_un (by decide)]; exact t2
  · rw [wI_sR_s, pk_un (by decide)]; exact t3
  · rw [wI_sR_s, pk_un (by decide)]; exact t4
  · rw [wI_sR_s, pk_un (by decide)]; exact t5
  · rw [wI_sR_s, pk_un (by decide)]; exact a4
  · rw [wI_sR_s, pk_un (by decide)]; exact a5
  · rw [wI_sR_s, pk_un (by decide)]; exact a6
  · rw [wI_sR_s, pk_un (by decide)]; exact a7
  · rw [wI_sR_s, pk_us]; rfl
  · rw [wI_sR_n _ (by decide)]; exact a9
theorem PsR.tn {w : Wd} {T : Nat → Int32} {n at0 : Nat} {p : PS} (h : PsR w T n at0 p) (d : Nat) : PsR (sR w 78 (upd (wI w 78) 22 (nI d))) T n at0 (psTn d p) := by
  obtain ⟨a1, a2, ⟨t1, t2, t3, t4, t5⟩, a4, a5, a6, a7, a8, a9⟩ := h
  refine ⟨?_, ?_, ⟨?_, ?_, ?_, ?_, ?_⟩, ?_, ?_, ?_, ?_, ?_, ?_⟩
  · rw [wI_sR_n _ (by decide)]; exact a1
  · rw [wI_sR_s, pk_un (by decide)]; exact a2
  · rw [wI_sR_s, pk_un (by decide)]; exact t1
  · rw [wI_sR_s, pk_un (by decide)]; exact t2
  · rw [wI_sR_s, pk_un (by decide)]; exact t3
  · rw [wI_sR_s, pk_un (by decide)]; exact t4
  · rw [wI_sR_s, pk_un (by decide)]; exact t5
  · rw [wI_sR_s, pk_un (by decide)]; exact a4
  · rw [wI_sR_s, pk_us]; rfl
  · rw [wI_sR_s, pk_un (by decide)]; exact a6
  · rw [wI_sR_s, pk_un (by decide)]; exact a7
  · rw [wI_sR_s, pk_un (by decide)]; exact a8
  · rw [wI_sR_n _ (by decide)]; exact a9
theorem PsR.dp {w : Wd} {T : Nat → Int32} {n at0 : Nat} {p : PS} (h : PsR w T n at0 p) (d : Nat) : PsR (sR w 78 (upd (wI w 78) 21 (nI d))) T n at0 (psDp d p) := by
  obtain ⟨a1, a2, ⟨t1, t2, t3, t4, t5⟩, a4, a5, a6, a7, a8, a9⟩ := h
  refine ⟨?_, ?_, ⟨?_, ?_, ?_, ?_, ?_⟩, ?_, ?_, ?_, ?_, ?_, ?_⟩
  · rw [wI_sR_n _ (by decide)]; exact a1
  · rw [wI_sR_s, pk_un (by decide)]; exact a2
  · rw [wI_sR_s, pk_un (by decide)]; exact t1
  · rw [wI_sR_s, pk_un (by decide)]; exact t2
  · rw [wI_sR_s, pk_un (by decide)]; exact t3
  · rw [wI_sR_s, pk_un (by decide)]; exact t4
  · rw [wI_sR_s, pk_un (by decide)]; exact t5
  · rw [wI_sR_s, pk_us]; rfl
  · rw [wI_sR_s, pk_un (by decide)]; exact a5
  · rw [wI_sR_s, pk_un (by decide)]; exact a6
  · rw [wI_sR_s, pk_un (by decide)]; exact a7
  · rw [wI_sR_s, pk_un (by decide)]; exact a8
  · rw [wI_sR_n _ (by decide)]; exact a9
theorem c_part0 (g : Cx) {T : Nat → Int32} {n B a0 key : Nat} (hn : n ≤ 96) (hB : a0 + 2 * B ≤ 3040) (hk : key ≤ 2) : ∀ f d, 6 * f + 4 ≤ d → RdC g yX9_part0 cX9_part0 2 T n B a0 key f d (psPt T n a0 (nI key) f) := by
  intro f
  induction f with
  | zero =>
    intro d hd w hw p hp hf hR
    have h1 := hp.2.1
    have h2 := hp.2.2.1
    omega
  | succ f ih =>
    intro d hd w hw p hp hf hR
    have hGo := Pt_ok (T := T) (n := n) (a0 := a0) (B := B) hk f
    have hP : RdC g yX9_part0 cX9_part0 2 T n B a0 key f (d - 6) (psPt T n a0 (nI key) f) := ih (d - 6) (by omega)
    have hE : RdC g yX9_either cX9_either 2 T n B a0 key f (d - 6 + 1 + 1 + 1 + 1 + 1) (psEi T n a0 (psPt T n a0 (nI key) f)) :=
      c_either g hn hB (by omega) (Bi_ok opAn_s (Te_ok opCm_s (Bi_ok opSu_s (Bi_ok opTe_s hGo)))) (c_both g hn hB (by omega) (Te_ok opCm_s (Bi_ok opSu_s (Bi_ok opTe_s hGo))) (c_test g hn hB (by omega) (Bi_ok opSu_s (Bi_ok opTe_s hGo)) (c_sum g hn hB (by omega) (Bi_ok opTe_s hGo) (c_term g hn hB (by omega) hGo hP))))
    refine CI.of (own := RX9) (nm := "part0") (lv := [some (.ref (gb g + 78)), some (.int (nI key))]) (by decide) rfl rfl (Nat.le_of_ble_eq_true rfl) rfl (fun Q hQ => ?_)
    have hdp := hp.2.1
    have htu := hp.2.2.1
    have etu : (nI p.2.2.1).toInt = (p.2.2.1 : Int) := i_nI (by omega)
    by_cases c1 : p.1.2.2.1 = 2
    · have e1 : psPt T n a0 (nI key) (f + 1) p = (true, psNx T n (psSa (psSt a0 0 p.1.2.2.2.1 p))) := by
        simp only [psPt]
        rw [if_pos c1]
      have hla := hp.la (by rw [c1]; decide)
      have hR1 := hR.st 0 p.1.2.2.2.1
      have hR2 := hR1.sa
      refine jr_aload_n dX9_part0_0 rfl ?_
      refine gfX9_206 dX9_part0_1 (hw.k rfl) ?_
      rw [hR.2.2.1.2.2.1]
      refine jr_iconst (2) dX9_part0_4 (by decide) ?_
      refine jr_icmp_ne 33 dX9_part0_5 (by decide) (fun c_5 => absurd c1 c_5) (fun c_5 => ?_)
      refine jr_aload_n dX9_part0_8 rfl ?_
      refine jr_iconst (0) dX9_part0_9 (by decide) ?_
      refine jr_aload_n dX9_part0_10 rfl ?_
      refine gfX9_221 dX9_part0_11 (hw.k rfl) ?_
      rw [hR.2.2.1.2.2.2.1]
      refine jc_Vv (c_step g _ hw a0 _ hR.2.2.2.2.2.2.1 hR.2.2.2.2.2.1 (by omega) _ _) lkX9_247 (hw.k rfl) rfl rfl (by omega) (Nat.le_of_ble_eq_true rfl) dX9_part0_14 (fun w_14 h_14 => ?_)
      obtain rfl := h_14
      refine jr_aload_n dX9_part0_17 rfl ?_
      refine jr_dup dX9_part0_18 rfl ?_
      refine gfX9_262 dX9_part0_19 (hw.k rfl) ?_
      rw [hR1.2.2.2.2.2.2.2.1]
      refine jr_iconst (1) dX9_part0_22 (by decide) ?_
      refine jr_iadd dX9_part0_23 ?_
      rw [jlit 1, nI_add]
      refine pfX9_262 dX9_part0_24 (hw.k rfl) ?_
      refine jr_aload_n dX9_part0_27 rfl ?_
      refine jc_Vv (c_nextToken g _ (((hw.sR _ _).sR _ _).sR _ _) T hR2.1 n hn hR2.2.1 _ hR2.2.2.1 hp.1.1) lkX9_244 (hw.k rfl) rfl rfl (by omega) (Nat.le_of_ble_eq_true rfl) dX9_part0_28 (fun w_28 h_28 => ?_)
      obtain ⟨f2, rfl, t1, t2⟩ := h_28
      refine jr_iconst (1) dX9_part0_31 (by decide) ?_
      refine jr_zret rfl (by decide) dX9_part0_32 ?_
      exact hQ _ _ ⟨by rw [e1]; exact jb_t' rfl, by rw [e1]; exact hR2.nx t1 t2, (ST.st.tr (ST.u (by decide))).tr (ST.nx t2)⟩
    · by_cases c2 : p.1.2.2.1 = 1 ∧ ¬ p.1.2.2.2.2 = 0 ∧ nmP (nI key) p.1.2.2.2.2
      · have e1 : psPt T n a0 (nI key) (f + 1) p = (true, psNx T n (psSa (psSt a0 1 p.1.2.2.2.2 p))) := by
          simp only [psPt]
          rw [if_neg c1, if_pos c2]
        have hla := hp.la (by rw [c2.1]; decide)
        have hR1 := hR.st 1 p.1.2.2.2.2
        have hR2 := hR1.sa
        refine jr_aload_n dX9_part0_0 rfl ?_
        refine gfX9_206 dX9_part0_1 (hw.k rfl) ?_
        rw [hR.2.2.1.2.2.1]
        refine jr_iconst (2) dX9_part0_4 (by decide) ?_
        refine jr_icmp_ne 33 dX9_part0_5 (by decide) (fun c_5 => ?_) (fun c_5 => absurd c_5 c1)
        refine jr_aload_n dX9_part0_33 rfl ?_
        refine gfX9_206 dX9_part0_34 (hw.k rfl) ?_
        rw [hR.2.2.1.2.2.1]
        refine jr_iconst (1) dX9_part0_37 (by decide) ?_
        refine jr_icmp_ne 84 dX9_part0_38 (by decide) (fun c_38 => absurd c2.1 c_38) (fun c_38 => ?_)
        refine jr_aload_n dX9_part0_41 rfl ?_
        refine gfX9_215 dX9_part0_42 (hw.k rfl) ?_
        rw [hR.2.2.1.2.2.2.2]
        refine jr_if_eq 84 dX9_part0_45 (by decide) (fun c_45 => absurd c_45 c2.2.1) (fun c_45 => ?_)
        refine jr_iload_n dX9_part0_48 rfl ?_
        refine jr_aload_n dX9_part0_49 rfl ?_
        refine gfX9_215 dX9_part0_50 (hw.k rfl) ?_
        rw [hR.2.2.1.2.2.2.2]
        refine jc_Si (c_isName g _ _ _) lkX9_265 rfl rfl (by omega) (Nat.le_of_ble_eq_true rfl) dX9_part0_53 (fun r_53 w_53 h_53 => ?_)
        obtain ⟨rfl, rfl⟩ := h_53
        refine jr_if_eq 84 dX9_part0_56 (by decide) (fun c_56 => absurd c_56 (jb_1.mpr c2.2.2)) (fun c_56 => ?_)
        refine jr_aload_n dX9_part0_59 rfl ?_
        refine jr_iconst (1) dX9_part0_60 (by decide) ?_
        refine jr_aload_n dX9_part0_61 rfl ?_
        refine gfX9_215 dX9_part0_62 (hw.k rfl) ?_
        rw [hR.2.2.1.2.2.2.2]
        refine jc_Vv (c_step g _ hw a0 _ hR.2.2.2.2.2.2.1 hR.2.2.2.2.2.1 (by omega) _ _) lkX9_247 (hw.k rfl) rfl rfl (by omega) (Nat.le_of_ble_eq_true rfl) dX9_part0_65 (fun w_65 h_65 => ?_)
        obtain rfl := h_65
        refine jr_aload_n dX9_part0_68 rfl ?_
        refine jr_dup dX9_part0_69 rfl ?_
        refine gfX9_262 dX9_part0_70 (hw.k rfl) ?_
        rw [hR1.2.2.2.2.2.2.2.1]
        refine jr_iconst (1) dX9_part0_73 (by decide) ?_
        refine jr_iadd dX9_part0_74 ?_
        rw [jlit 1, nI_add]
        refine pfX9_262 dX9_part0_75 (hw.k rfl) ?_
        refine jr_aload_n dX9_part0_78 rfl ?_
        refine jc_Vv (c_nextToken g _ (((hw.sR _ _).sR _ _).sR _ _) T hR2.1 n hn hR2.2.1 _ hR2.2.2.1 hp.1.1) lkX9_244 (hw.k rfl) rfl rfl (by omega) (Nat.le_of_ble_eq_true rfl) dX9_part0_79 (fun w_79 h_79 => ?_)
        obtain ⟨f2, rfl, t1, t2⟩ := h_79
        refine jr_iconst (1) dX9_part0_82 (by decide) ?_
        refine jr_zret rfl (by decide) dX9_part0_83 ?_
        exact hQ _ _ ⟨by rw [e1]; exact jb_t' rfl, by rw [e1]; exact hR2.nx t1 t2, (ST.st.tr (ST.u (by decide))).tr (ST.nx t2)⟩
      · have K84 : RR g RX9 cX9_part0 2 (some .boolean) "part0" d 0 0 0 0 84 [some (.ref (gb g + 78)), some (.int (nI key))] [] w Q := by
          by_cases c3 : psSg 33 p ∧ p.2.2.1 < 8
          · have h0 : ¬ p.1.2.2.1 = 0 := by rw [c3.1.1]; decide
            have w1 : Wk key a0 B 0 0 p (psTn (p.2.2.1 + 1) p) := Wk_eq rfl rfl rfl
            have w2 : Wk key a0 B 1 0 (psTn (p.2.2.1 + 1) p) (psNx T n (psTn (p.2.2.1 + 1) p)) := Wk_nx hp.1 h0
            have w3 : Wk key a0 B 1 0 p (psNx T n (psTn (p.2.2.1 + 1) p)) := w1.tr w2 (by omega) (by omega)
            have hq : PI T n B (psNx T n (psTn (p.2.2.1 + 1) p)) := hp.to w3 (by omega) (tokF_I hp.1.1).1 hp.2.1 (show p.2.2.1 + 1 ≤ 8 by omega)
            obtain ⟨s1, s2, s3⟩ := hGo _ hq
            have et : (psNx T n (psTn (p.2.2.1 + 1) p)).2.2.1 = p.2.2.1 + 1 := rfl
            have hR1 := hR.tn (p.2.2.1 + 1)
            have hC := fun w hw hR => hP w hw (psNx T n (psTn (p.2.2.1 + 1) p)) hq (show 17 ≤ f + p.2.1 + (p.2.2.1 + 1) by omega) hR
            obtain ⟨r, er⟩ : ∃ r, r = psPt T n a0 (nI key) f (psNx T n (psTn (p.2.2.1 + 1) p)) := ⟨_, rfl⟩
            rw [← er] at s1 s2 s3 hC
            by_cases h1 : r.1 = true
            · have e1 : psPt T n a0 (nI key) (f + 1) p = (true, psSt a0 2 33 (psTn (r.2.2.2.1 - 1) r.2)) := by
                simp only [psPt]
                rw [if_neg c1, if_neg c2, if_pos c3, ← er, if_pos h1]
              obtain ⟨v1, d1, t1⟩ := s3 h1
              have v2 : Wk key a0 B 1 1 p r.2 := w3.tr v1 (by omega) (by omega)
              have hlb : r.2.2.2.2.1 < B := by
                have a1 := hp.2.2.2
                have a2 := v2.2.1
                have a3 := s1.1
                have a4 := s1.2.1
                omega
              have K126 : ∀ w2, PsR w2 T n a0 r.2 → ST w w2 → RR g RX9 cX9_part0 2 (some .boolean) "part0" d 0 0 0 0 126 [some (.ref (gb g + 78)), some (.int (nI key))] [] w2 Q := by
                intro w2 hR2 hS2
                have hw2 := hS2.wf hw
                have hR3 := hR2.tn (r.2.2.2.1 - 1)
                refine jr_aload_n dX9_part0_126 rfl ?_
                refine jr_dup dX9_part0_127 rfl ?_
                refine gfX9_268 dX9_part0_128 (hw2.k rfl) ?_
                rw [hR2.2.2.2.2.1]
                refine jr_iconst (1) dX9_part0_131 (by decide) ?_
                refine jr_isub dX9_part0_132 ?_
                rw [sub1 (by rw [t1, et]; omega)]
                refine pfX9_268 dX9_part0_133 (hw2.k rfl) ?_
                refine jr_aload_n dX9_part0_136 rfl ?_
                refine jr_iconst (2) dX9_part0_137 (by decide) ?_
                refine jr_bipush (33) dX9_part0_138 (by decide) ?_
                refine jc_Vv (c_step g _ (hw2.sR _ _) a0 _ hR3.2.2.2.2.2.2.1 hR3.2.2.2.2.2.1 (by show a0 + 2 * r.2.2.2.2.1 + 1 < 3040; omega) _ _) lkX9_247 (hw2.k rfl) rfl rfl (by omega) (Nat.le_of_ble_eq_true rfl) dX9_part0_140 (fun w_140 h_140 => ?_)
                obtain rfl := h_140
                refine jr_iconst (1) dX9_part0_143 (by decide) ?_
                refine jr_zret rfl (by decide) dX9_part0_144 ?_
                exact hQ _ _ ⟨by rw [e1]; exact jb_t' rfl, by rw [e1]; exact hR3.st 2 33, (hS2.tr (ST.u (by decide))).tr ST.st⟩
              refine jr_aload_n dX9_part0_84 rfl ?_
              refine jr_bipush (33) dX9_part0_85 (by decide) ?_
              refine jc_Vi (c_isSign g _ hw _) lkX9_241 (hw.k rfl) rfl rfl (by omega) (Nat.le_of_ble_eq_true rfl) dX9_part0_87 (fun r_87 w_87 h_87 => ?_)
              obtain ⟨rfl, rfl⟩ := h_87
              rw [psg_e hR]
              refine jr_if_eq 145 dX9_part0_90 (by decide) (fun c_90 => absurd c_90 (jb_1.mpr c3.1)) (fun c_90 => ?_)
              refine jr_aload_n dX9_part0_93 rfl ?_
              refine gfX9_268 dX9_part0_94 (hw.k rfl) ?_
              rw [hR.2.2.2.2.1]
              refine jr_bipush (8) dX9_part0_97 (by decide) ?_
              refine jr_icmp_ge 145 dX9_part0_99 (by decide) (fun c_99 => absurd c_99 (by rw [jlit 8]; exact nI_ge c3.2 (by decide))) (fun c_99 => ?_)
              refine jr_aload_n dX9_part0_102 rfl ?_
              refine jr_dup dX9_part0_103 rfl ?_
              refine gfX9_268 dX9_part0_104 (hw.k rfl) ?_
              rw [hR.2.2.2.2.1]
              refine jr_iconst (1) dX9_part0_107 (by decide) ?_
              refine jr_iadd dX9_part0_108 ?_
              rw [jlit 1, nI_add]
              refine pfX9_268 dX9_part0_109 (hw.k rfl) ?_
              refine jr_aload_n dX9_part0_112 rfl ?_
              refine jc_Vv (c_nextToken g _ (hw.sR _ _) T hR1.1 n hn hR1.2.1 _ hR1.2.2.1 hp.1.1) lkX9_244 (hw.k rfl) rfl rfl (by omega) (Nat.le_of_ble_eq_true rfl) dX9_part0_113 (fun w_113 h_113 => ?_)
              obtain ⟨f2, rfl, u1, u2⟩ := h_113
              refine jr_aload_n dX9_part0_116 rfl ?_
              refine jr_iload_n dX9_part0_117 rfl ?_
              refine jc_Vi (hC _ ((hw.sR _ _).sR _ _) (hR1.nx u1 u2)) lkX9_259 (hw.k rfl) rfl rfl (by omega) (Nat.le_of_ble_eq_true rfl) dX9_part0_118 (fun r_118 w_118 h_118 => ?_)
              obtain ⟨rfl, hR2, hS2⟩ := h_118
              refine jr_if_ne 126 dX9_part0_121 (by decide) (fun c_121 => ?_) (fun c_121 => absurd c_121 (jb_1.mpr h1))
              exact K126 _ hR2 (((ST.u (by decide)).tr (ST.nx u2)).tr hS2)
            · have e1 : psPt T n a0 (nI key) (f + 1) p = (false, r.2) := by
                simp only [psPt]
                rw [if_neg c1, if_neg c2, if_pos c3, ← er, if_neg h1]
              refine jr_aload_n dX9_part0_84 rfl ?_
              refine jr_bipush (33) dX9_part0_85 (by decide) ?_
              refine jc_Vi (c_isSign g _ hw _) lkX9_241 (hw.k rfl) rfl rfl (by omega) (Nat.le_of_ble_eq_true rfl) dX9_part0_87 (fun r_87 w_87 h_87 => ?_)
              obtain ⟨rfl, rfl⟩ := h_87
              rw [psg_e hR]
              refine jr_if_eq 145 dX9_part0_90 (by decide) (fun c_90 => absurd c_90 (jb_1.mpr c3.1)) (fun c_90 => ?_)
              refine jr_aload_n dX9_part0_93 rfl ?_
              refine gfX9_268 dX9_part0_94 (hw.k rfl) ?_
              rw [hR.2.2.2.2.1]
              refine jr_bipush (8) dX9_part0_97 (by decide) ?_
              refine jr_icmp_ge 145 dX9_part0_99 (by decide) (fun c_99 => absurd c_99 (by rw [jlit 8]; exact nI_ge c3.2 (by decide))) (fun c_99 => ?_)
              refine jr_aload_n dX9_part0_102 rfl ?_
              refine jr_dup dX9_part0_103 rfl ?_
              refine gfX9_268 dX9_part0_104 (hw.k rfl) ?_
              rw [hR.2.2.2.2.1]
              refine jr_iconst (1) dX9_part0_107 (by decide) ?_
              refine jr_iadd dX9_part0_108 ?_
              rw [jlit 1, nI_add]
              refine pfX9_268 dX9_part0_109 (hw.k rfl) ?_
              refine jr_aload_n dX9_part0_112 rfl ?_
              refine jc_Vv (c_nextToken g _ (hw.sR _ _) T hR1.1 n hn hR1.2.1 _ hR1.2.2.1 hp.1.1) lkX9_244 (hw.k rfl) rfl rfl (by omega) (Nat.le_of_ble_eq_true rfl) dX9_part0_113 (fun w_113 h_113 => ?_)
              obtain ⟨f2, rfl, u1, u2⟩ := h_113
              refine jr_aload_n dX9_part0_116 rfl ?_
              refine jr_iload_n dX9_part0_117 rfl ?_
              refine jc_Vi (hC _ ((hw.sR _ _).sR _ _) (hR1.nx u1 u2)) lkX9_259 (hw.k rfl) rfl rfl (by omega) (Nat.le_of_ble_eq_true rfl) dX9_part0_118 (fun r_118 w_118 h_118 => ?_)
              obtain ⟨rfl, hR2, hS2⟩ := h_118
              refine jr_if_ne 126 dX9_part0_121 (by decide) (fun c_121 => absurd (jb_f h1) c_121) (fun c_121 => ?_)
              refine jr_iconst (0) dX9_part0_124 (by decide) ?_
              refine jr_zret rfl (by decide) dX9_part0_125 ?_
              exact hQ _ _ ⟨by rw [e1]; exact jb_f' Bool.false_ne_true, by rw [e1]; exact hR2, ((ST.u (by decide)).tr (ST.nx u2)).tr hS2⟩
          · have K145 : RR g RX9 cX9_part0 2 (some .boolean) "part0" d 0 0 0 0 145 [some (.ref (gb g + 78)), some (.int (nI key))] [] w Q := by
              by_cases c4 : ¬ psSg 40 p ∨ p.2.1 = 8
              · have e1 : psPt T n a0 (nI key) (f + 1) p = (false, p) := by
                  simp only [psPt]
                  rw [if_neg c1, if_neg c2, if_neg c3, if_pos c4]
                refine jr_aload_n dX9_part0_145 rfl ?_
                refine jr_bipush (40) dX9_part0_146 (by decide) ?_
                refine jc_Vi (c_isSign g _ hw _) lkX9_241 (hw.k rfl) rfl rfl (by omega) (Nat.le_of_ble_eq_true rfl) dX9_part0_148 (fun r_148 w_148 h_148 => ?_)
                obtain ⟨rfl, rfl⟩ := h_148
                rw [psg_e hR]
                refine jr_if_eq 163 dX9_part0_151 (by decide) (fun c_151 => ?_) (fun c_151 => ?_)
                · rw [jb_0] at c_151
                  refine jr_iconst (0) dX9_part0_163 (by decide) ?_
                  refine jr_zret rfl (by decide) dX9_part0_164 ?_
                  exact hQ _ _ ⟨by rw [e1]; exact jb_f' Bool.false_ne_true, by rw [e1]; exact hR, ST.rf⟩
                · rw [jb_1] at c_151
                  refine jr_aload_n dX9_part0_154 rfl ?_
                  refine gfX9_271 dX9_part0_155 (hw.k rfl) ?_
                  rw [hR.2.2.2.1]
                  refine jr_bipush (8) dX9_part0_158 (by decide) ?_
                  refine jr_icmp_ne 165 dX9_part0_160 (by decide) (fun c_160 => ?_) (fun c_160 => ?_)
                  · exfalso; exact c4.elim (fun h => h c_151) (fun h => c_160 (by rw [h]; rfl))
                  · refine jr_iconst (0) dX9_part0_163 (by decide) ?_
                    refine jr_zret rfl (by decide) dX9_part0_164 ?_
                    exact hQ _ _ ⟨by rw [e1]; exact jb_f' Bool.false_ne_true, by rw [e1]; exact hR, ST.rf⟩
              · have c5 : psSg 40 p := Decidable.not_not.mp (fun h => c4 (Or.inl h))
                have c6 : ¬ p.2.1 = 8 := fun h => c4 (Or.inr h)
                have h0 : ¬ p.1.2.2.1 = 0 := by rw [c5.1]; decide
                have w1 : Wk key a0 B 0 0 p (psDp (p.2.1 + 1) p) := Wk_eq rfl rfl rfl
                have w2 : Wk key a0 B 1 0 (psDp (p.2.1 + 1) p) (psNx T n (psDp (p.2.1 + 1) p)) := Wk_nx hp.1 h0
                have w3 : Wk key a0 B 1 0 p (psNx T n (psDp (p.2.1 + 1) p)) := w1.tr w2 (by omega) (by omega)
                have hq : PI T n B (psNx T n (psDp (p.2.1 + 1) p)) := hp.to w3 (by omega) (tokF_I hp.1.1).1 (show p.2.1 + 1 ≤ 8 by omega) hp.2.2.1
                obtain ⟨s1, s2, s3⟩ := Ei_ok hGo _ hq
                have ed : (psNx T n (psDp (p.2.1 + 1) p)).2.1 = p.2.1 + 1 := rfl
                have hR1 := hR.dp (p.2.1 + 1)
                have hC := fun w hw hR => hE w hw (psNx T n (psDp (p.2.1 + 1) p)) hq (show 17 ≤ f + (p.2.1 + 1) + p.2.2.1 by omega) hR
                obtain ⟨r, er⟩ : ∃ r, r = psEi T n a0 (psPt T n a0 (nI key) f) (psNx T n (psDp (p.2.1 + 1) p)) := ⟨_, rfl⟩
                rw [← er] at s1 s2 s3 hC
                have hne : ¬ nI p.2.1 = 8 := fun h => c6 (nI_inj (by omega) (by decide) h)
                by_cases ha : r.1 = true
                · obtain ⟨v1, d1, t1⟩ := s3 ha
                  have K187 : ∀ w2, PsR w2 T n a0 r.2 → ST w w2 → RR g RX9 cX9_part0 2 (some .boolean) "part0" d 0 0 0 0 187 [some (.ref (gb g + 78)), some (.int (nI key))] [] w2 Q := by
                    intro w2 hR2 hS2
                    have hw2 := hS2.wf hw
                    have hR3 := hR2.dp (r.2.2.1 - 1)
                    by_cases hb : psSg 41 r.2
                    · have e1 : psPt T n a0 (nI key) (f + 1) p = (true, psNx T n (psDp (r.2.2.1 - 1) r.2)) := by
                        simp only [psPt]
                        rw [if_neg c1, if_neg c2, if_neg c3, if_neg c4, ← er, if_pos ⟨ha, hb⟩]
                      refine jr_aload_n dX9_part0_187 rfl ?_
                      refine jr_bipush (41) dX9_part0_188 (by decide) ?_
                      refine jc_Vi (c_isSign g _ hw2 _) lkX9_241 (hw2.k rfl) rfl rfl (by omega) (Nat.le_of_ble_eq_true rfl) dX9_part0_190 (fun r_190 w_190 h_190 => ?_)
                      obtain ⟨rfl, rfl⟩ := h_190
                      rw [psg_e hR2]
                      refine jr_if_ne 198 dX9_part0_193 (by decide) (fun c_193 => ?_) (fun c_193 => absurd c_193 (jb_1.mpr hb))
                      refine jr_aload_n dX9_part0_198 rfl ?_
                      refine jr_dup dX9_part0_199 rfl ?_
                      refine gfX9_271 dX9_part0_200 (hw2.k rfl) ?_
                      rw [hR2.2.2.2.1]
                      refine jr_iconst (1) dX9_part0_203 (by decide) ?_
                      refine jr_isub dX9_part0_204 ?_
                      rw [sub1 (by rw [d1, ed]; omega)]
                      refine pfX9_271 dX9_part0_205 (hw2.k rfl) ?_
                      refine jr_aload_n dX9_part0_208 rfl ?_
                      refine jc_Vv (c_nextToken g _ (hw2.sR _ _) T hR3.1 n hn hR3.2.1 _ hR3.2.2.1 s1.1) lkX9_244 (hw2.k rfl) rfl rfl (by omega) (Nat.le_of_ble_eq_true rfl) dX9_part0_209 (fun w_209 h_209 => ?_)
                      obtain ⟨f2, rfl, u1, u2⟩ := h_209
                      refine jr_iconst (1) dX9_part0_212 (by decide) ?_
                      refine jr_zret rfl (by decide) dX9_part0_213 ?_
                      exact hQ _ _ ⟨by rw [e1]; exact jb_t' rfl, by rw [e1]; exact hR3.nx u1 u2, (hS2.tr (ST.u (by decide))).tr (ST.nx u2)⟩
                    · have e1 : psPt T n a0 (nI key) (f + 1) p = (false, r.2) := by
                        simp only [psPt]
                        rw [if_neg c1, if_neg c2, if_neg c3, if_neg c4, ← er, if_neg (fun h => hb h.2)]
                      refine jr_aload_n dX9_part0_187 rfl ?_
                      refine jr_bipush (41) dX9_part0_188 (by decide) ?_
                      refine jc_Vi (c_isSign g _ hw2 _) lkX9_241 (hw2.k rfl) rfl rfl (by omega) (Nat.le_of_ble_eq_true rfl) dX9_part0_190 (fun r_190 w_190 h_190 => ?_)
                      obtain ⟨rfl, rfl⟩ := h_190
                      rw [psg_e hR2]
                      refine jr_if_ne 198 dX9_part0_193 (by decide) (fun c_193 => absurd (jb_f hb) c_193) (fun c_193 => ?_)
                      refine jr_iconst (0) dX9_part0_196 (by decide) ?_
                      refine jr_zret rfl (by decide) dX9_part0_197 ?_
                      exact hQ _ _ ⟨by rw [e1]; exact jb_f' Bool.false_ne_true, by rw [e1]; exact hR2, hS2⟩
                  refine jr_aload_n dX9_part0_145 rfl ?_
                  refine jr_bipush (40) dX9_part0_146 (by decide) ?_
                  refine jc_Vi (c_isSign g _ hw _) lkX9_241 (hw.k rfl) rfl rfl (by omega) (Nat.le_of_ble_eq_true rfl) dX9_part0_148 (fun r_148 w_148 h_148 => ?_)
                  obtain ⟨rfl, rfl⟩ := h_148
                  rw [psg_e hR]
                  refine jr_if_eq 163 dX9_part0_151 (by decide) (fun c_151 => absurd c_151 (jb_1.mpr c5)) (fun c_151 => ?_)
                  refine jr_aload_n dX9_part0_154 rfl ?_
                  refine gfX9_271 dX9_part0_155 (hw.k rfl) ?_
                  rw [hR.2.2.2.1]
                  refine jr_bipush (8) dX9_part0_158 (by decide) ?_
                  refine jr_icmp_ne 165 dX9_part0_160 (by decide) (fun c_160 => ?_) (fun c_160 => absurd c_160 hne)
                  refine jr_aload_n dX9_part0_165 rfl ?_
                  refine jr_dup dX9_part0_166 rfl ?_
                  refine gfX9_271 dX9_part0_167 (hw.k rfl) ?_
                  rw [hR.2.2.2.1]
                  refine jr_iconst (1) dX9_part0_170 (by decide) ?_
                  refine jr_iadd dX9_part0_171 ?_
                  rw [jlit 1, nI_add]
                  refine pfX9_271 dX9_part0_172 (hw.k rfl) ?_
                  refine jr_aload_n dX9_part0_175 rfl ?_
                  refine jc_Vv (c_nextToken g _ (hw.sR _ _) T hR1.1 n hn hR1.2.1 _ hR1.2.2.1 hp.1.1) lkX9_244 (hw.k rfl) rfl rfl (by omega) (Nat.le_of_ble_eq_true rfl) dX9_part0_176 (fun w_176 h_176 => ?_)
                  obtain ⟨f2, rfl, u1, u2⟩ := h_176
                  refine jr_aload_n dX9_part0_179 rfl ?_
                  refine jr_iload_n dX9_part0_180 rfl ?_
                  refine jc_Vi (hC _ ((hw.sR _ _).sR _ _) (hR1.nx u1 u2)) lkX9_274 (hw.k rfl) rfl rfl (by omega) (Nat.le_of_ble_eq_true rfl) dX9_part0_181 (fun r_181 w_181 h_181 => ?_)
                  obtain ⟨rfl, hR2, hS2⟩ := h_181
                  refine jr_if_eq 196 dX9_part0_184 (by decide) (fun c_184 => absurd c_184 (jb_1.mpr ha)) (fun c_184 => ?_)
                  exact K187 _ hR2 (((ST.u (by decide)).tr (ST.nx u2)).tr hS2)
                · have e1 : psPt T n a0 (nI key) (f + 1) p = (false, r.2) := by
                    simp only [psPt]
                    rw [if_neg c1, if_neg c2, if_neg c3, if_neg c4, ← er, if_neg (fun h => ha h.1)]
                  refine jr_aload_n dX9_part0_145 rfl ?_
                  refine jr_bipush (40) dX9_part0_146 (by decide) ?_
                  refine jc_Vi (c_isSign g _ hw _) lkX9_241 (hw.k rfl) rfl rfl (by omega) (Nat.le_of_ble_eq_true rfl) dX9_part0_148 (fun r_148 w_148 h_148 => ?_)
                  obtain ⟨rfl, rfl⟩ := h_148
                  rw [psg_e hR]
                  refine jr_if_eq 163 dX9_part0_151 (by decide) (fun c_151 => absurd c_151 (jb_1.mpr c5)) (fun c_151 => ?_)
                  refine jr_aload_n dX9_part0_154 rfl ?_
                  refine gfX9_271 dX9_part0_155 (hw.k rfl) ?_
                  rw [hR.2.2.2.1]
                  refine jr_bipush (8) dX9_part0_158 (by decide) ?_
                  refine jr_icmp_ne 165 dX9_part0_160 (by decide) (fun c_160 => ?_) (fun c_160 => absurd c_160 hne)
                  refine jr_aload_n dX9_part0_165 rfl ?_
                  refine jr_dup dX9_part0_166 rfl ?_
                  refine gfX9_271 dX9_part0_167 (hw.k rfl) ?_
                  rw [hR.2.2.2.1]
                  refine jr_iconst (1) dX9_part0_170 (by decide) ?_
                  refine jr_iadd dX9_part0_171 ?_
                  rw [jlit 1, nI_add]
                  refine pfX9_271 dX9_part0_172 (hw.k rfl) ?_
                  refine jr_aload_n dX9_part0_175 rfl ?_
                  refine jc_Vv (c_nextToken g _ (hw.sR _ _) T hR1.1 n hn hR1.2.1 _ hR1.2.2.1 hp.1.1) lkX9_244 (hw.k rfl) rfl rfl (by omega) (Nat.le_of_ble_eq_true rfl) dX9_part0_176 (fun w_176 h_176 => ?_)
                  obtain ⟨f2, rfl, u1, u2⟩ := h_176
                  refine jr_aload_n dX9_part0_179 rfl ?_
                  refine jr_iload_n dX9_part0_180 rfl ?_
                  refine jc_Vi (hC _ ((hw.sR _ _).sR _ _) (hR1.nx u1 u2)) lkX9_274 (hw.k rfl) rfl rfl (by omega) (Nat.le_of_ble_eq_true rfl) dX9_part0_181 (fun r_181 w_181 h_181 => ?_)
                  obtain ⟨rfl, hR2, hS2⟩ := h_181
                  refine jr_if_eq 196 dX9_part0_184 (by decide) (fun c_184 => ?_) (fun c_184 => absurd (jb_f ha) c_184)
                  refine jr_iconst (0) dX9_part0_196 (by decide) ?_
                  refine jr_zret rfl (by decide) dX9_part0_197 ?_
                  exact hQ _ _ ⟨by rw [e1]; exact jb_f' Bool.false_ne_true, by rw [e1]; exact hR2, ((ST.u (by decide)).tr (ST.nx u2)).tr hS2⟩
            refine jr_aload_n dX9_part0_84 rfl ?_
            refine jr_bipush (33) dX9_part0_85 (by decide) ?_
            refine jc_Vi (c_isSign g _ hw _) lkX9_241 (hw.k rfl) rfl rfl (by omega) (Nat.le_of_ble_eq_true rfl) dX9_part0_87 (fun r_87 w_87 h_87 => ?_)
            obtain ⟨rfl, rfl⟩ := h_87
            rw [psg_e hR]
            refine jr_if_eq 145 dX9_part0_90 (by decide) (fun c_90 => ?_) (fun c_90 => ?_)
            · rw [jb_0] at c_90
              exact K145
            · rw [jb_1] at c_90
              refine jr_aload_n dX9_part0_93 rfl ?_
              refine gfX9_268 dX9_part0_94 (hw.k rfl) ?_
              rw [hR.2.2.2.2.1]
              refine jr_bipush (8) dX9_part0_97 (by decide) ?_
              refine jr_icmp_ge 145 dX9_part0_99 (by decide) (fun c_99 => ?_) (fun c_99 => ?_)
              · simp only [lt_i, le_i, eq_i, Int32.reduceToInt] at c_99
                exact K145
              · simp only [lt_i, le_i, eq_i, Int32.reduceToInt] at c_99
                exfalso; exact c3 ⟨c_90, by omega⟩
        refine jr_aload_n dX9_part0_0 rfl ?_
        refine gfX9_206 dX9_part0_1 (hw.k rfl) ?_
        rw [hR.2.2.1.2.2.1]
        refine jr_iconst (2) dX9_part0_4 (by decide) ?_
        refine jr_icmp_ne 33 dX9_part0_5 (by decide) (fun c_5 => ?_) (fun c_5 => absurd c_5 c1)
        refine jr_aload_n dX9_part0_33 rfl ?_
        refine gfX9_206 dX9_part0_34 (hw.k rfl) ?_
        rw [hR.2.2.1.2.2.1]
        refine jr_iconst (1) dX9_part0_37 (by decide) ?_
        refine jr_icmp_ne 84 dX9_part0_38 (by decide) (fun c_38 => ?_) (fun c_38 => ?_)
        · exact K84
        · refine jr_aload_n dX9_part0_41 rfl ?_
          refine gfX9_215 dX9_part0_42 (hw.k rfl) ?_
          rw [hR.2.2.1.2.2.2.2]
          refine jr_if_eq 84 dX9_part0_45 (by decide) (fun c_45 => ?_) (fun c_45 => ?_)
          · exact K84
          · refine jr_iload_n dX9_part0_48 rfl ?_
            refine jr_aload_n dX9_part0_49 rfl ?_
            refine gfX9_215 dX9_part0_50 (hw.k rfl) ?_
            rw [hR.2.2.1.2.2.2.2]
            refine jc_Si (c_isName g _ _ _) lkX9_265 rfl rfl (by omega) (Nat.le_of_ble_eq_true rfl) dX9_part0_53 (fun r_53 w_53 h_53 => ?_)
            obtain ⟨rfl, rfl⟩ := h_53
            refine jr_if_eq 84 dX9_part0_56 (by decide) (fun c_56 => ?_) (fun c_56 => ?_)
            · rw [jb_0] at c_56
              exact K84
            · rw [jb_1] at c_56
              exfalso; exact c2 ⟨c_38, c_45, c_56⟩
theorem c_eitherW (g : Cx) {T : Nat → Int32} {n B a0 key : Nat} (hn : n ≤ 96) (hB : a0 + 2 * B ≤ 3040) (hk : key ≤ 2) : RdC g yX9_either cX9_either 2 T n B a0 key 17 140 (psEi T n a0 (psPt T n a0 (nI key) 17)) := by
  have hGo := Pt_ok (T := T) (n := n) (a0 := a0) (B := B) hk 17
  exact c_either g hn hB (by omega) (Bi_ok opAn_s (Te_ok opCm_s (Bi_ok opSu_s (Bi_ok opTe_s hGo)))) (c_both g hn hB (by omega) (Te_ok opCm_s (Bi_ok opSu_s (Bi_ok opTe_s hGo))) (c_test g hn hB (by omega) (Bi_ok opSu_s (Bi_ok opTe_s hGo)) (c_sum g hn hB (by omega) (Bi_ok opTe_s hGo) (c_term g hn hB (by omega) hGo (c_part0 g hn hB hk 17 135 (by omega))))))
