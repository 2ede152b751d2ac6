-- the reference's reader: a whole text
theorem i_any (x : Int32) : ∃ n : Nat, x = nI n := by
  refine ⟨x.toBitVec.toNat, ?_⟩
  apply Int32.toBitVec_inj.mp
  apply BitVec.eq_of_toNat_eq
  show _ = (BitVec.ofNat 32 _).toNat
  rw [BitVec.toNat_ofNat]
  exact (Nat.mod_eq_of_lt x.toBitVec.isLt).symm
def at0F (s : Nat → Int32) : Nat := if sN s 1 < 14 then 40 + 200 * sN s 1 + 4 else 2840
def k1F (T : Nat → Int32) (n : Nat) (nu le : Int32) : Tok := tokF T n (0, 0, 3, nu, le)
def kyF (T : Nat → Int32) (n : Nat) (nu le : Int32) : Int32 := keyF (k1F T n nu le).2.2.1 (k1F T n nu le).1 (k1F T n nu le).2.1 T
def p1F (T : Nat → Int32) (n : Nat) (nu le : Int32) (s : Nat → Int32) : PS := (k1F T n nu le, 0, 0, 0, 0, s)
def eiF (T : Nat → Int32) (n a0 : Nat) (ky : Int32) (p : PS) : Bool × PS := psEi T n a0 (psPt T n a0 ky 17) p
def prF (T : Nat → Int32) (n : Nat) (nu le : Int32) (s : Nat → Int32) : Bool × PS :=
  if (kyF T n nu le).toInt < 0 then (false, p1F T n nu le s)
  else ((eiF T n (at0F s) (kyF T n nu le) (psNx T n (p1F T n nu le s))).1 && decide ((eiF T n (at0F s) (kyF T n nu le) (psNx T n (p1F T n nu le s))).2.1.2.2.1 = 0), (eiF T n (at0F s) (kyF T n nu le) (psNx T n (p1F T n nu le s))).2)
theorem ky_c (T : Nat → Int32) (n : Nat) (nu le : Int32) : kyF T n nu le = -1 ∨ ∃ key, key ≤ 2 ∧ kyF T n nu le = nI key ∧ 3 ≤ (k1F T n nu le).2.1 - (k1F T n nu le).1 ∧ (k1F T n nu le).2.2.1 = 1 := by
  unfold kyF keyF
  generalize k1F T n nu le = k
  by_cases h1 : wdLP k.2.2.1 k.1 k.2.1 T 97 103 97 105 110 0
  · rw [if_pos h1]
    refine Or.inr ⟨0, by omega, rfl, ?_, h1.1⟩
    have := h1.2.1
    rw [if_pos rfl] at this
    omega
  · rw [if_neg h1]
    by_cases h2 : wdAP k.2.2.1 k.1 k.2.1 T 102 101 101 0
    · rw [if_pos h2]
      refine Or.inr ⟨1, by omega, rfl, ?_, h2.1⟩
      have := h2.2.1
      rw [if_pos rfl] at this
      omega
    · rw [if_neg h2]
      by_cases h3 : wdAP k.2.2.1 k.1 k.2.1 T 102 105 110 101
      · rw [if_pos h3]
        refine Or.inr ⟨2, by omega, rfl, ?_, h3.1⟩
        have := h3.2.1
        rw [if_neg (by decide)] at this
        omega
      · rw [if_neg h3]
        exact Or.inl rfl
theorem k1_I {T : Nat → Int32} {n : Nat} {nu le : Int32} : TkI T n (k1F T n nu le) := (tokF_I (Nat.zero_le n)).1
/-- behind the key: all that the reader of a piece is given -/
theorem p1_I {T : Nat → Int32} {n : Nat} {nu le : Int32} {s : Nat → Int32} (hn : n ≤ 96) (h : 3 ≤ (k1F T n nu le).2.1 - (k1F T n nu le).1) : PI T n 93 (psNx T n (p1F T n nu le s)) := by
  have h1 := tokF_I (T := T) (n := n) (k := k1F T n nu le) k1_I.1
  have h2 := (k1_I (T := T) (n := n) (nu := nu) (le := le)).2.1
  refine ⟨h1.1, Nat.zero_le _, Nat.zero_le _, ?_⟩
  show 0 + n ≤ 93 + (tokF T n (k1F T n nu le)).1
  omega
theorem at0_le (s : Nat → Int32) : 44 ≤ at0F s ∧ at0F s ≤ 2840 := by
  unfold at0F
  split <;> omega
theorem c_parse (g : Cx) (w : Wd) (hw : Wf w) (s T : Nat → Int32) (hs : wI w 79 = s) (hT : wI w 92 = T) (n : Nat) (hn : n ≤ 96) (h15 : wI w 78 15 = nI n) (hN : Nb s 1 14) : CI g yX9_parse cX9_parse 3 (some .int) 141 0 0 [.ref (gb g + 78)] w
    (fun r w' => r = (if (prF T n (wI w 78 19) (wI w 78 20) s).1 = true then kyF T n (wI w 78 19) (wI w 78 20) else -1) ∧ wI w' 79 = (prF T n (wI w 78 19) (wI w 78 20) s).2.2.2.2.2.2 ∧ wI w' 78 16 = nI (prF T n (wI w 78 19) (wI w 78 20) s).2.1.1 ∧
      wI w' 78 23 = nI (prF T n (wI w 78 19) (wI w 78 20) s).2.2.2.2.1 ∧ wI w' 78 25 = nI (prF T n (wI w 78 19) (wI w 78 20) s).2.2.2.2.2.1 ∧ wI w' 78 15 = 0 ∧ (∀ j, j < 15 ∨ 25 < j → wI w' 78 j = wI w 78 j) ∧ Sm scT w w') := by
  obtain ⟨nu, enu⟩ : ∃ x, x = wI w 78 19 := ⟨_, rfl⟩
  obtain ⟨le, ele⟩ : ∃ x, x = wI w 78 20 := ⟨_, rfl⟩
  rw [← enu, ← ele]
  have hN1 : s 1 = nI (sN s 1) := hN.1
  have hN2 : sN s 1 ≤ 14 := hN.2
  obtain ⟨b0, eb0⟩ := i_any (wI w 78 16)
  have ha := at0_le s
  refine CI.of (own := RX9) (nm := "parse") (lv := [some (.ref (gb g + 78)), none, none]) (by decide) rfl rfl (Nat.le_of_ble_eq_true rfl) rfl (fun Q hQ => ?_)
  obtain ⟨F0, eF0⟩ : ∃ F, F = upd (upd (upd (upd (upd (upd (wI w 78) 17 0) 18 3) 21 0) 22 0) 23 0) 25 0 := ⟨_, rfl⟩
  have f19 : F0 19 = nu := by rw [eF0, pk_un (by decide), pk_un (by decide), pk_un (by decide), pk_un (by decide), pk_un (by decide), pk_un (by decide), enu]
  have f20 : F0 20 = le := by rw [eF0, pk_un (by decide), pk_un (by decide), pk_un (by decide), pk_un (by decide), pk_un (by decide), pk_un (by decide), ele]
  have f16 : F0 16 = nI b0 := by rw [eF0, pk_un (by decide), pk_un (by decide), pk_un (by decide), pk_un (by decide), pk_un (by decide), pk_un (by decide), eb0]
  have f15 : F0 15 = nI n := by rw [eF0, pk_un (by decide), pk_un (by decide), pk_un (by decide), pk_un (by decide), pk_un (by decide), pk_un (by decide), h15]
  have f17 : F0 17 = nI 0 := by rw [eF0, pk_un (by decide), pk_un (by decide), pk_un (by decide), pk_un (by decide), pk_un (by decide), pk_us]; rfl
  have f18 : F0 18 = 3 := by rw [eF0, pk_un (by decide), pk_un (by decide), pk_un (by decide), pk_un (by decide), pk_us]
  have f21 : F0 21 = nI 0 := by rw [eF0, pk_un (by decide), pk_un (by decide), pk_un (by decide), pk_us]; rfl
  have f22 : F0 22 = nI 0 := by rw [eF0, pk_un (by decide), pk_un (by decide), pk_us]; rfl
  have f23 : F0 23 = nI 0 := by rw [eF0, pk_un (by decide), pk_us]; rfl
  have f25 : F0 25 = nI 0 := by rw [eF0, pk_us]; rfl
  have fO : ∀ j, j < 15 ∨ 25 < j → F0 j = wI w 78 j := fun j hj => by rw [eF0, pk_un (by omega), pk_un (by omega), pk_un (by omega), pk_un (by omega), pk_un (by omega), pk_un (by omega)]
  obtain ⟨G0, eG0⟩ : ∃ F, F = upd F0 24 (nI (at0F s)) := ⟨_, rfl⟩
  have hk0 : TkR G0 (b0, 0, 3, nu, le) := by
    refine ⟨?_, ?_, ?_, ?_, ?_⟩ <;> rw [eG0, pk_un (by decide)] <;> assumption
  have hO0 : ∀ j, j < 15 ∨ 25 < j → G0 j = wI w 78 j := fun j hj => by rw [eG0, pk_un (by omega), fO j hj]
  have ek1 : tokF T n (b0, 0, 3, nu, le) = k1F T n nu le := rfl
  have hk1 := k1_I (T := T) (n := n) (nu := nu) (le := le)
  have hps : ∀ f2, TkR f2 (k1F T n nu le) → TkO G0 f2 → PsR (sR w 78 f2) T n (at0F s) (p1F T n nu le s) := by
    intro f2 t1 t2
    refine ⟨?_, ?_, ?_, ?_, ?_, ?_, ?_, ?_, ?_⟩
    · rw [wI_sR_n _ (by decide)]; exact hT
    · rw [wI_sR_s, t2 15 (by decide), eG0, pk_un (by decide)]; exact f15
    · rw [wI_sR_s]; exact t1
    · rw [wI_sR_s, t2 21 (by decide), eG0, pk_un (by decide)]; exact f21
    · rw [wI_sR_s, t2 22 (by decide), eG0, pk_un (by decide)]; exact f22
    · rw [wI_sR_s, t2 23 (by decide), eG0, pk_un (by decide)]; exact f23
    · rw [wI_sR_s, t2 24 (by decide), eG0, pk_us]
    · rw [wI_sR_s, t2 25 (by decide), eG0, pk_un (by decide)]; exact f25
    · rw [wI_sR_n _ (by decide)]; exact hs
  -- the end: the tape is empty again
  have fin : ∀ (w2 : Wd) (q : PS), PsR w2 T n (at0F s) q → (∀ j, j < 15 ∨ 25 < j → wI w2 78 j = wI w 78 j) → Sm scT w w2 → (prF T n nu le s).2 = q → ∀ r, r = (if (prF T n nu le s).1 = true then kyF T n nu le else -1) → Q (some (.int r)) (sR w2 78 (upd (wI w2 78) 15 0)) := by
    intro w2 q hR hO hS eq r er
    refine hQ _ _ ⟨er, ?_, ?_, ?_, ?_, ?_, ?_, hS.tr (Sm.sR (Or.inl rfl))⟩
    · rw [wI_sR_n _ (by decide), eq]; exact hR.2.2.2.2.2.2.2.2
    · rw [wI_sR_s, pk_un (by decide), eq]; exact hR.2.2.1.1
    · rw [wI_sR_s, pk_un (by decide), eq]; exact hR.2.2.2.2.2.1
    · rw [wI_sR_s, pk_un (by decide), eq]; exact hR.2.2.2.2.2.2.2.1
    · rw [wI_sR_s, pk_us]
    · intro j hj
      rw [wI_sR_s, pk_un (by omega)]
      exact hO j hj
  have K60 : RR g RX9 cX9_parse 3 (some .int) "parse" 141 0 0 0 0 60 [some (.ref (gb g + 78)), none, none] [.int (nI (at0F s)), .ref (gb g + 78)] (sR w 78 F0) Q := by
    rcases ky_c T n nu le with hky | ⟨key, hk2, hky, h3, hw1⟩
    · have epr : prF T n nu le s = (false, p1F T n nu le s) := by
        rw [prF, if_pos (by rw [hky]; decide)]
      have eky : keyF (k1F T n nu le).2.2.1 (k1F T n nu le).1 (k1F T n nu le).2.1 T = -1 := hky
      refine pfX9_232 dX9_parse_60 (hw.k rfl) ?_
      rw [sR_sR, wI_sR_s, ← eG0]
      refine jr_aload_n dX9_parse_63 rfl ?_
      refine jc_Vv (c_nextToken g _ (hw.sR _ _) T (by rw [wI_sR_n _ (by decide)]; exact hT) n hn (by rw [wI_sR_s, eG0, pk_un (by decide)]; exact f15) (b0, 0, 3, nu, le) (by rw [wI_sR_s]; exact hk0) (Nat.zero_le _)) lkX9_244 (hw.k rfl) rfl rfl (Nat.le_of_ble_eq_true rfl) (Nat.le_of_ble_eq_true rfl) dX9_parse_64 (fun w_64 h_64 => ?_)
      obtain ⟨f2, rfl, t1, t2⟩ := h_64
      rw [wI_sR_s] at t2
      rw [ek1] at t1
      rw [sR_sR]
      have hR := hps f2 t1 t2
      refine jr_aload_n dX9_parse_67 rfl ?_
      refine jc_Vi (c_key g _ (hw.sR _ _) T hR.1 _ _ hk1.2.1 (Nat.le_trans hk1.1 hn) hR.2.2.1.1 hR.2.2.1.2.1) lkX9_280 (hw.k rfl) rfl rfl (Nat.le_of_ble_eq_true rfl) (Nat.le_of_ble_eq_true rfl) dX9_parse_68 (fun r_68 w_68 h_68 => ?_)
      obtain ⟨rfl, rfl⟩ := h_68
      rw [hR.2.2.1.2.2.1, show (p1F T n nu le s).1 = k1F T n nu le from rfl, eky]
      refine jr_istore_1 dX9_parse_71 (by decide) rfl ?_
      refine jr_iload_n dX9_parse_72 rfl ?_
      refine jr_if_lt 80 dX9_parse_73 (by decide) (fun c_73 => ?_) (fun c_73 => absurd (by decide) c_73)
      refine jr_iconst (0) dX9_parse_80 (by decide) ?_
      refine jr_istore_2 dX9_parse_81 (by decide) rfl ?_
      refine jr_iload_n dX9_parse_82 rfl ?_
      refine jr_if_eq 111 dX9_parse_83 (by decide) (fun c_83 => ?_) (fun c_83 => absurd (by decide) c_83)
      refine jr_aload_n dX9_parse_111 rfl ?_
      refine jr_iconst (0) dX9_parse_112 (by decide) ?_
      refine pfX9_191 dX9_parse_113 (hw.k rfl) ?_
      refine jr_iload_n dX9_parse_116 rfl ?_
      refine jr_if_eq 124 dX9_parse_117 (by decide) (fun c_117 => ?_) (fun c_117 => absurd (by decide) c_117)
      refine jr_iconst (-1) dX9_parse_124 (by decide) ?_
      refine jr_iret rfl dX9_parse_125 ?_
      exact fin _ _ hR (fun j hj => by rw [wI_sR_s, t2 j (by omega)]; exact hO0 j hj) (Sm.sR (Or.inl rfl)) (by rw [epr]) _ (by rw [epr]; rfl)
    · have hnl : ¬ (kyF T n nu le).toInt < 0 := by rw [hky, i_nI (by omega)]; omega
      have eky : keyF (k1F T n nu le).2.2.1 (k1F T n nu le).1 (k1F T n nu le).2.1 T = nI key := hky
      have hPI := p1_I (s := s) hn h3
      have hE := c_eitherW g (T := T) (n := n) (B := 93) (a0 := at0F s) (key := key) hn (by omega) hk2
      obtain ⟨r, er⟩ : ∃ r, r = psEi T n (at0F s) (psPt T n (at0F s) (nI key) 17) (psNx T n (p1F T n nu le s)) := ⟨_, rfl⟩
      have epr : prF T n nu le s = (r.1 && decide (r.2.1.2.2.1 = 0), r.2) := by
        rw [prF, if_neg hnl, eiF, hky, ← er]
      have hC := fun w hw hR => hE w hw (psNx T n (p1F T n nu le s)) hPI (show 17 ≤ 17 + 0 + 0 by omega) hR
      rw [← er] at hC
      have M : ∀ w2, PsR w2 T n (at0F s) r.2 → (∀ j, j < 15 ∨ 25 < j → wI w2 78 j = wI w 78 j) → Sm scT w w2 → RR g RX9 cX9_parse 3 (some .int) "parse" 141 0 0 0 0 95 [some (.ref (gb g + 78)), some (.int (nI key)), some (.int 1)] [.int (jb (r.1 = true))] w2 Q := by
        intro w2 hR2 hO2 hS2
        have hw2 := hS2.wf hw
        have fin2 := fin w2 r.2 hR2 hO2 hS2 (by rw [epr])
        rw [epr] at fin2
        by_cases hb : r.1 = true
        · by_cases hc : r.2.1.2.2.1 = 0
          · refine jr_if_eq 109 dX9_parse_95 (by decide) (fun c_95 => absurd c_95 (jb_1.mpr hb)) (fun c_95 => ?_)
            refine jr_aload_n dX9_parse_98 rfl ?_
            refine gfX9_206 dX9_parse_99 (hw2.k rfl) ?_
            rw [hR2.2.2.1.2.2.1]
            refine jr_if_ne 109 dX9_parse_102 (by decide) (fun c_102 => absurd hc c_102) (fun c_102 => ?_)
            refine jr_iconst (1) dX9_parse_105 (by decide) ?_
            refine jr_goto 110 dX9_parse_106 (by decide) ?_
            refine jr_istore_2 dX9_parse_110 (by decide) rfl ?_
            refine jr_aload_n dX9_parse_111 rfl ?_
            refine jr_iconst (0) dX9_parse_112 (by decide) ?_
            refine pfX9_191 dX9_parse_113 (hw2.k rfl) ?_
            refine jr_iload_n dX9_parse_116 rfl ?_
            refine jr_if_eq 124 dX9_parse_117 (by decide) (fun c_117 => absurd c_117 (by decide)) (fun c_117 => ?_)
            refine jr_iload_n dX9_parse_120 rfl ?_
            refine jr_goto 125 dX9_parse_121 (by decide) ?_
            refine jr_iret rfl dX9_parse_125 ?_
            exact fin2 _ (by rw [if_pos (by rw [hb, decide_eq_true hc]; rfl), hky])
          · refine jr_if_eq 109 dX9_parse_95 (by decide) (fun c_95 => absurd c_95 (jb_1.mpr hb)) (fun c_95 => ?_)
            refine jr_aload_n dX9_parse_98 rfl ?_
            refine gfX9_206 dX9_parse_99 (hw2.k rfl) ?_
            rw [hR2.2.2.1.2.2.1]
            refine jr_if_ne 109 dX9_parse_102 (by decide) (fun c_102 => ?_) (fun c_102 => absurd c_102 hc)
            refine jr_iconst (0) dX9_parse_109 (by decide) ?_
            refine jr_istore_2 dX9_parse_110 (by decide) rfl ?_
            refine jr_aload_n dX9_parse_111 rfl ?_
            refine jr_iconst (0) dX9_parse_112 (by decide) ?_
            refine pfX9_191 dX9_parse_113 (hw2.k rfl) ?_
            refine jr_iload_n dX9_parse_116 rfl ?_
            refine jr_if_eq 124 dX9_parse_117 (by decide) (fun c_117 => ?_) (fun c_117 => absurd (by decide) c_117)
            refine jr_iconst (-1) dX9_parse_124 (by decide) ?_
            refine jr_iret rfl dX9_parse_125 ?_
            exact fin2 _ (by rw [if_neg (by rw [hb, decide_eq_false hc]; exact Bool.false_ne_true)])
        · have hb2 : r.1 = false := by
            cases h9 : r.1 with
            | false => rfl
            | true => exact absurd h9 hb
          refine jr_if_eq 109 dX9_parse_95 (by decide) (fun c_95 => ?_) (fun c_95 => absurd (jb_f hb) c_95)
          refine jr_iconst (0) dX9_parse_109 (by decide) ?_
          refine jr_istore_2 dX9_parse_110 (by decide) rfl ?_
          refine jr_aload_n dX9_parse_111 rfl ?_
          refine jr_iconst (0) dX9_parse_112 (by decide) ?_
          refine pfX9_191 dX9_parse_113 (hw2.k rfl) ?_
          refine jr_iload_n dX9_parse_116 rfl ?_
          refine jr_if_eq 124 dX9_parse_117 (by decide) (fun c_117 => ?_) (fun c_117 => absurd (by decide) c_117)
          refine jr_iconst (-1) dX9_parse_124 (by decide) ?_
          refine jr_iret rfl dX9_parse_125 ?_
          exact fin2 _ (by rw [if_neg (by rw [hb2]; exact Bool.false_ne_true)])
      refine pfX9_232 dX9_parse_60 (hw.k rfl) ?_
      rw [sR_sR, wI_sR_s, ← eG0]
      refine jr_aload_n dX9_parse_63 rfl ?_
      refine jc_Vv (c_nextToken g _ (hw.sR _ _) T (by rw [wI_sR_n _ (by decide)]; exact hT) n hn (by rw [wI_sR_s, eG0, pk_un (by decide)]; exact f15) (b0, 0, 3, nu, le) (by rw [wI_sR_s]; exact hk0) (Nat.zero_le _)) lkX9_244 (hw.k rfl) rfl rfl (Nat.le_of_ble_eq_true rfl) (Nat.le_of_ble_eq_true rfl) dX9_parse_64 (fun w_64 h_64 => ?_)
      obtain ⟨f2, rfl, t1, t2⟩ := h_64
      rw [wI_sR_s] at t2
      rw [ek1] at t1
      rw [sR_sR]
      have hR := hps f2 t1 t2
      refine jr_aload_n dX9_parse_67 rfl ?_
      refine jc_Vi (c_key g _ (hw.sR _ _) T hR.1 _ _ hk1.2.1 (Nat.le_trans hk1.1 hn) hR.2.2.1.1 hR.2.2.1.2.1) lkX9_280 (hw.k rfl) rfl rfl (Nat.le_of_ble_eq_true rfl) (Nat.le_of_ble_eq_true rfl) dX9_parse_68 (fun r_68 w_68 h_68 => ?_)
      obtain ⟨rfl, rfl⟩ := h_68
      rw [hR.2.2.1.2.2.1, show (p1F T n nu le s).1 = k1F T n nu le from rfl, eky]
      refine jr_istore_1 dX9_parse_71 (by decide) rfl ?_
      refine jr_iload_n dX9_parse_72 rfl ?_
      refine jr_if_lt 80 dX9_parse_73 (by decide) (fun c_73 => absurd c_73 (nI_pos (by omega))) (fun c_73 => ?_)
      refine jr_iconst (1) dX9_parse_76 (by decide) ?_
      refine jr_goto 81 dX9_parse_77 (by decide) ?_
      refine jr_istore_2 dX9_parse_81 (by decide) rfl ?_
      refine jr_iload_n dX9_parse_82 rfl ?_
      refine jr_if_eq 111 dX9_parse_83 (by decide) (fun c_83 => absurd c_83 (by decide)) (fun c_83 => ?_)
      refine jr_aload_n dX9_parse_86 rfl ?_
      refine jc_Vv (c_nextToken g _ (hw.sR _ _) T hR.1 n hn hR.2.1 _ hR.2.2.1 hk1.1) lkX9_244 (hw.k rfl) rfl rfl (Nat.le_of_ble_eq_true rfl) (Nat.le_of_ble_eq_true rfl) dX9_parse_87 (fun w_87 h_87 => ?_)
      obtain ⟨f3, rfl, u1, u2⟩ := h_87
      refine jr_aload_n dX9_parse_90 rfl ?_
      refine jr_iload_n dX9_parse_91 rfl ?_
      refine jc_Vi (hC _ ((hw.sR _ _).sR _ _) (hR.nx u1 u2)) lkX9_274 (hw.k rfl) rfl rfl (Nat.le_of_ble_eq_true rfl) (Nat.le_of_ble_eq_true rfl) dX9_parse_92 (fun r_92 w_92 h_92 => ?_)
      obtain ⟨rfl, hR2, hS2⟩ := h_92
      exact M _ hR2 (fun j hj => by rw [hS2.2 j (by omega), wI_sR_s, u2 j (by omega), wI_sR_s, t2 j (by omega)]; exact hO0 j hj) (((Sm.sR (Or.inl rfl)).tr (Sm.sR (Or.inl rfl))).tr hS2.1)
  refine jr_aload_n dX9_parse_0 rfl ?_
  refine jr_iconst (0) dX9_parse_1 (by decide) ?_
  refine pfX9_203 dX9_parse_2 (hw.k rfl) ?_
  refine jr_aload_n dX9_parse_5 rfl ?_
  refine jr_iconst (3) dX9_parse_6 (by decide) ?_
  refine pfX9_206 dX9_parse_7 (hw.k rfl) ?_
  refine jr_aload_n dX9_parse_10 rfl ?_
  refine jr_iconst (0) dX9_parse_11 (by decide) ?_
  refine pfX9_271 dX9_parse_12 (hw.k rfl) ?_
  refine jr_aload_n dX9_parse_15 rfl ?_
  refine jr_iconst (0) dX9_parse_16 (by decide) ?_
  refine pfX9_268 dX9_parse_17 (hw.k rfl) ?_
  refine jr_aload_n dX9_parse_20 rfl ?_
  refine jr_iconst (0) dX9_parse_21 (by decide) ?_
  refine pfX9_235 dX9_parse_22 (hw.k rfl) ?_
  refine jr_aload_n dX9_parse_25 rfl ?_
  refine jr_iconst (0) dX9_parse_26 (by decide) ?_
  refine pfX9_262 dX9_parse_27 (hw.k rfl) ?_
  simp only [sR_sR, wI_sR_s]
  rw [← eF0]
  refine jr_aload_n dX9_parse_30 rfl ?_
  refine jr_aload_n dX9_parse_31 rfl ?_
  refine gfX9_7 79 dX9_parse_32 (hw.k rfl) (hw.f rfl) ?_
  refine jr_iconst (1) dX9_parse_35 (by decide) ?_
  refine jr_iald 1 (hw.k rfl) rfl (by decide) dX9_parse_36 ?_
  rw [wI_sR_n _ (by decide), hs, hN1]
  refine jr_bipush (14) dX9_parse_37 (by decide) ?_
  refine jr_icmp_ge 57 dX9_parse_39 (by decide) (fun c_39 => ?_) (fun c_39 => ?_)
  · refine jr_sipush (2840) dX9_parse_57 (by decide) ?_
    first
    | (rw [show (2840 : Int32) = nI (at0F s) by rw [at0F, if_neg (by have h9 := c_39; rw [le_i, i_nI (by omega)] at h9; simp only [Int32.reduceToInt] at h9; omega)]; rfl]; exact K60)
    | (rw [show nI (40 + 200 * sN s 1 + 4) = nI (at0F s) by rw [at0F, if_pos (by have h9 := c_39; rw [le_i, i_nI (by omega)] at h9; simp only [Int32.reduceToInt] at h9; omega)]]; exact K60)
  · refine jr_aload_n dX9_parse_42 rfl ?_
    refine jr_aload_n dX9_parse_43 rfl ?_
    refine gfX9_7 79 dX9_parse_44 (hw.k rfl) (hw.f rfl) ?_
    refine jr_iconst (1) dX9_parse_47 (by decide) ?_
    refine jr_iald 1 (hw.k rfl) rfl (by decide) dX9_parse_48 ?_
    rw [wI_sR_n _ (by decide), hs, hN1]
    refine jc_Vi (c_mtextAt g _ (sN s 1)) lkX9_277 (hw.k rfl) rfl rfl (Nat.le_of_ble_eq_true rfl) (Nat.le_of_ble_eq_true rfl) dX9_parse_49 (fun r_49 w_49 h_49 => ?_)
    obtain ⟨rfl, rfl⟩ := h_49
    refine jr_iconst (4) dX9_parse_52 (by decide) ?_
    refine jr_iadd dX9_parse_53 ?_
    rw [jlit 4, nI_add]
    refine jr_goto 60 dX9_parse_54 (by decide) ?_
    first
    | (rw [show (2840 : Int32) = nI (at0F s) by rw [at0F, if_neg (by have h9 := c_39; rw [le_i, i_nI (by omega)] at h9; simp only [Int32.reduceToInt] at h9; omega)]; rfl]; exact K60)
    | (rw [show nI (40 + 200 * sN s 1 + 4) = nI (at0F s) by rw [at0F, if_pos (by have h9 := c_39; rw [le_i, i_nI (by omega)] at h9; simp only [Int32.reduceToInt] at h9; omega)]]; exact K60)
/-- what is known of a text that was read -/
theorem pr_fr {T : Nat → Int32} {n : Nat} {nu le : Int32} {s : Nat → Int32} (hn : n ≤ 96) : ∀ j, j < at0F s ∨ at0F s + 2 * 93 ≤ j → (prF T n nu le s).2.2.2.2.2.2 j = s j := by
  intro j hj
  rcases ky_c T n nu le with hky | ⟨key, hk2, hky, h3, hw1⟩
  · rw [prF, if_pos (by rw [hky]; decide)]
    rfl
  · rw [prF, if_neg (by rw [hky, i_nI (by omega)]; omega), eiF, hky]
    have h := (Ei_ok (Pt_ok (T := T) (n := n) (a0 := at0F s) (B := 93) hk2 17) _ (p1_I (s := s) hn h3)).2.1
    exact h j (by show j < at0F s + 2 * 0 ∨ _; omega)
theorem pr_ok {T : Nat → Int32} {n : Nat} {nu le : Int32} {s : Nat → Int32} (hn : n ≤ 96) (h : (prF T n nu le s).1 = true) : ∃ key, key ≤ 2 ∧ kyF T n nu le = nI key ∧ (k1F T n nu le).2.2.1 = 1 ∧ PI T n 93 (psNx T n (p1F T n nu le s)) ∧
    Wk key (at0F s) 93 0 1 (psNx T n (p1F T n nu le s)) (prF T n nu le s).2 ∧ TkI T n (prF T n nu le s).2.1 := by
  rcases ky_c T n nu le with hky | ⟨key, hk2, hky, h3, hw1⟩
  · rw [prF, if_pos (by rw [hky]; decide)] at h
    exact absurd h Bool.false_ne_true
  · have e : prF T n nu le s = ((eiF T n (at0F s) (nI key) (psNx T n (p1F T n nu le s))).1 && decide ((eiF T n (at0F s) (nI key) (psNx T n (p1F T n nu le s))).2.1.2.2.1 = 0), (eiF T n (at0F s) (nI key) (psNx T n (p1F T n nu le s))).2) := by
      rw [prF, if_neg (by rw [hky, i_nI (by omega)]; omega), hky]
    rw [e] at h ⊢
    have hp := p1_I (s := s) hn h3
    obtain ⟨a1, a2, a3⟩ := Ei_ok (Pt_ok (T := T) (n := n) (a0 := at0F s) (B := 93) hk2 17) _ hp
    have h1 := (Bool.and_eq_true_iff.mp h).1
    exact ⟨key, hk2, hky, hw1, hp, (a3 h1).1, a1⟩
def F_text (T : Nat → Int32) (n : Nat) (nu le : Int32) (s : Nat → Int32) : Int32 :=
  if (prF T n nu le s).1 = true then (if sN s 1 = 14 then -1000000003 else nI (sN s 1)) else -100 - nI (prF T n nu le s).2.1.1
def txR (q : PS) (ky : Int32) (k : Nat) : Nat → Int32 := upd (upd (upd (upd q.2.2.2.2.2 (40 + 200 * k + 0) ky) (40 + 200 * k + 1) (nI q.2.2.2.2.1)) (40 + 200 * k + 2) (nI q.2.2.2.1)) 1 (nI (k + 1))
def S_text (T : Nat → Int32) (n : Nat) (nu le : Int32) (s : Nat → Int32) : Nat → Int32 :=
  if (prF T n nu le s).1 = true ∧ ¬ sN s 1 = 14 then txR (prF T n nu le s).2 (kyF T n nu le) (sN s 1) else (prF T n nu le s).2.2.2.2.2.2
theorem m_text (g : Cx) (w : Wd) (hw : Wf w) (s T : Nat → Int32) (hs : wI w 79 = s) (hT : wI w 92 = T) (n : Nat) (hn : n ≤ 96) (h15 : wI w 78 15 = nI n) (hN : Nb s 1 14) : CI g yX9_text cX9_text 3 (some .int) 142 0 0 [.ref (gb g + 78)] w
    (fun r w' => r = F_text T n (wI w 78 19) (wI w 78 20) s ∧ wI w' 79 = S_text T n (wI w 78 19) (wI w 78 20) s ∧ wI w' 78 15 = 0 ∧ (∀ j, j < 15 ∨ 25 < j → wI w' 78 j = wI w 78 j) ∧ Sm scT w w') := by
  have hN1 : s 1 = nI (sN s 1) := hN.1
  have hN2 : sN s 1 ≤ 14 := hN.2
  have ha := at0_le s
  have hP := c_parse g w hw s T hs hT n hn h15 hN
  have hfr := fun j h => pr_fr (T := T) (nu := wI w 78 19) (le := wI w 78 20) (s := s) hn j (Or.inl h)
  have hok := pr_ok (T := T) (nu := wI w 78 19) (le := wI w 78 20) (s := s) hn
  have eF : F_text T n (wI w 78 19) (wI w 78 20) s = if (prF T n (wI w 78 19) (wI w 78 20) s).1 = true then (if sN s 1 = 14 then -1000000003 else nI (sN s 1)) else -100 - nI (prF T n (wI w 78 19) (wI w 78 20) s).2.1.1 := rfl
  have eS : S_text T n (wI w 78 19) (wI w 78 20) s = if (prF T n (wI w 78 19) (wI w 78 20) s).1 = true ∧ ¬ sN s 1 = 14 then txR (prF T n (wI w 78 19) (wI w 78 20) s).2 (kyF T n (wI w 78 19) (wI w 78 20)) (sN s 1) else (prF T n (wI w 78 19) (wI w 78 20) s).2.2.2.2.2.2 := rfl
  generalize prF T n (wI w 78 19) (wI w 78 20) s = r at hP hfr hok eF eS
  generalize kyF T n (wI w 78 19) (wI w 78 20) = ky at hP hok eS
  rw [eF, eS]
  have hr1 : r.2.2.2.2.2.2 1 = nI (sN s 1) := by rw [hfr 1 (by omega)]; exact hN1
  refine CI.of (own := RX9) (nm := "text") (lv := [some (.ref (gb g + 78)), none, none]) (by decide) rfl rfl (Nat.le_of_ble_eq_true rfl) rfl (fun Q hQ => ?_)
  have K : ∀ w2, wI w2 79 = r.2.2.2.2.2.2 → wI w2 78 16 = nI r.2.1.1 → wI w2 78 23 = nI r.2.2.2.2.1 → wI w2 78 25 = nI r.2.2.2.2.2.1 → wI w2 78 15 = 0 → (∀ j, j < 15 ∨ 25 < j → wI w2 78 j = wI w 78 j) → Sm scT w w2 → RR g RX9 cX9_text 3 (some .int) "text" 142 0 0 0 0 4 [some (.ref (gb g + 78)), none, none] [.int (if r.1 = true then ky else -1)] w2 Q := by
    intro w2 h79 h16 h23 h25 h15b hO hS
    have hw2 := hS.wf hw
    by_cases hb : r.1 = true
    · obtain ⟨key, hk2, hky, -⟩ := hok hb
      rw [if_pos hb]
      by_cases h14 : sN s 1 = 14
      · refine jr_istore_1 dX9_text_4 (by decide) rfl ?_
        refine jr_iload_n dX9_text_5 rfl ?_
        refine jr_if_ge 17 dX9_text_6 (by decide) (fun c_6 => ?_) (fun c_6 => absurd (by rw [hky]; exact nI_pos' (by omega)) c_6)
        refine jr_aload_n dX9_text_17 rfl ?_
        refine gfX9_7 79 dX9_text_18 (hw2.k rfl) (hw2.f rfl) ?_
        refine jr_iconst (1) dX9_text_21 (by decide) ?_
        refine jr_iald 1 (hw2.k rfl) rfl (by decide) dX9_text_22 ?_
        rw [h79, hr1]
        refine jr_bipush (14) dX9_text_23 (by decide) ?_
        refine jr_icmp_ne 31 dX9_text_25 (by decide) (fun c_25 => absurd (by rw [h14]; rfl) c_25) (fun c_25 => ?_)
        refine jr_ldc (-1000000003) ckX9_84 dX9_text_28 ?_
        refine jr_iret rfl dX9_text_30 ?_
        exact hQ _ _ ⟨by rw [if_pos hb, if_pos h14], by rw [if_neg (fun h => h.2 h14)]; exact h79, h15b, hO, hS⟩
      · refine jr_istore_1 dX9_text_4 (by decide) rfl ?_
        refine jr_iload_n dX9_text_5 rfl ?_
        refine jr_if_ge 17 dX9_text_6 (by decide) (fun c_6 => ?_) (fun c_6 => absurd (by rw [hky]; exact nI_pos' (by omega)) c_6)
        refine jr_aload_n dX9_text_17 rfl ?_
        refine gfX9_7 79 dX9_text_18 (hw2.k rfl) (hw2.f rfl) ?_
        refine jr_iconst (1) dX9_text_21 (by decide) ?_
        refine jr_iald 1 (hw2.k rfl) rfl (by decide) dX9_text_22 ?_
        rw [h79, hr1]
        refine jr_bipush (14) dX9_text_23 (by decide) ?_
        refine jr_icmp_ne 31 dX9_text_25 (by decide) (fun c_25 => ?_) (fun c_25 => absurd c_25 (fun h => h14 (nI_inj (by omega) (by decide) h)))
        refine jr_aload_n dX9_text_31 rfl ?_
        refine jr_aload_n dX9_text_32 rfl ?_
        refine gfX9_7 79 dX9_text_33 (hw2.k rfl) (hw2.f rfl) ?_
        refine jr_iconst (1) dX9_text_36 (by decide) ?_
        refine jr_iald 1 (hw2.k rfl) rfl (by decide) dX9_text_37 ?_
        rw [h79, hr1]
        refine jc_Vi (c_mtextAt g _ (sN s 1)) lkX9_277 (hw2.k rfl) rfl rfl (Nat.le_of_ble_eq_true rfl) (Nat.le_of_ble_eq_true rfl) dX9_text_38 (fun r_38 w_38 h_38 => ?_)
        obtain ⟨rfl, rfl⟩ := h_38
        refine jr_istore_2 dX9_text_41 (by decide) rfl ?_
        refine jr_aload_n dX9_text_42 rfl ?_
        refine gfX9_7 79 dX9_text_43 (hw2.k rfl) (hw2.f rfl) ?_
        refine jr_iload_n dX9_text_46 rfl ?_
        refine jr_iconst (0) dX9_text_47 (by decide) ?_
        refine jr_iadd dX9_text_48 ?_
        refine jr_iload_n dX9_text_49 rfl ?_
        refine jr_iast (40 + 200 * sN s 1 + 0) (hw2.k rfl) (by rw [jlit 0, nI_add]) ⟨by omega, by decide⟩ dX9_text_50 ?_
        rw [h79]
        refine jr_aload_n dX9_text_51 rfl ?_
        refine gfX9_7 79 dX9_text_52 (hw2.k rfl) (hw2.f rfl) ?_
        refine jr_iload_n dX9_text_55 rfl ?_
        refine jr_iconst (1) dX9_text_56 (by decide) ?_
        refine jr_iadd dX9_text_57 ?_
        refine jr_aload_n dX9_text_58 rfl ?_
        refine gfX9_262 dX9_text_59 (hw2.k rfl) ?_
        rw [wI_sR_n _ (by decide), h25]
        refine jr_iast (40 + 200 * sN s 1 + 1) (hw2.k rfl) (by rw [jlit 1, nI_add]) ⟨by omega, by decide⟩ dX9_text_62 ?_
        rw [sR_sR, wI_sR_s]
        refine jr_aload_n dX9_text_63 rfl ?_
        refine gfX9_7 79 dX9_text_64 (hw2.k rfl) (hw2.f rfl) ?_
        refine jr_iload_n dX9_text_67 rfl ?_
        refine jr_iconst (2) dX9_text_68 (by decide) ?_
        refine jr_iadd dX9_text_69 ?_
        refine jr_aload_n dX9_text_70 rfl ?_
        refine gfX9_235 dX9_text_71 (hw2.k rfl) ?_
        rw [wI_sR_n _ (by decide), h23]
        refine jr_iast (40 + 200 * sN s 1 + 2) (hw2.k rfl) (by rw [jlit 2, nI_add]) ⟨by omega, by decide⟩ dX9_text_74 ?_
        rw [sR_sR, wI_sR_s]
        refine jr_aload_n dX9_text_75 rfl ?_
        refine gfX9_7 79 dX9_text_76 (hw2.k rfl) (hw2.f rfl) ?_
        refine jr_iconst (1) dX9_text_79 (by decide) ?_
        refine jr_dup2 dX9_text_80 rfl rfl ?_
        refine jr_iald 1 (hw2.k rfl) rfl (by decide) dX9_text_81 ?_
        rw [wI_sR_s, pk_un (by omega), pk_un (by omega), pk_un (by omega), hr1]
        refine jr_iconst (1) dX9_text_82 (by decide) ?_
        refine jr_iadd dX9_text_83 ?_
        rw [jlit 1, nI_add]
        refine jr_iast 1 (hw2.k rfl) rfl (by decide) dX9_text_84 ?_
        rw [sR_sR]
        refine jr_aload_n dX9_text_85 rfl ?_
        refine gfX9_7 79 dX9_text_86 (hw2.k rfl) (hw2.f rfl) ?_
        refine jr_iconst (1) dX9_text_89 (by decide) ?_
        refine jr_iald 1 (hw2.k rfl) rfl (by decide) dX9_text_90 ?_
        rw [wI_sR_s, pk_us]
        refine jr_iconst (1) dX9_text_91 (by decide) ?_
        refine jr_isub dX9_text_92 ?_
        rw [nI_pred]
        refine jr_iret rfl dX9_text_93 ?_
        exact hQ _ _ ⟨by rw [if_pos hb, if_neg h14], by rw [if_pos ⟨hb, h14⟩, wI_sR_s]; rfl, by rw [wI_sR_n _ (by decide)]; exact h15b, fun j hj => by rw [wI_sR_n _ (by decide)]; exact hO j hj, hS.tr (Sm.sR (Or.inr rfl))⟩
    · rw [if_neg hb]
      refine jr_istore_1 dX9_text_4 (by decide) rfl ?_
      refine jr_iload_n dX9_text_5 rfl ?_
      refine jr_if_ge 17 dX9_text_6 (by decide) (fun c_6 => absurd c_6 (by decide)) (fun c_6 => ?_)
      refine jr_bipush (-100) dX9_text_9 (by decide) ?_
      refine jr_aload_n dX9_text_11 rfl ?_
      refine gfX9_209 dX9_text_12 (hw2.k rfl) ?_
      rw [h16]
      refine jr_isub dX9_text_15 ?_
      refine jr_iret rfl dX9_text_16 ?_
      exact hQ _ _ ⟨by rw [if_neg hb], by rw [if_neg (fun h => hb h.1)]; exact h79, h15b, hO, hS⟩
  refine jr_aload_n dX9_text_0 rfl ?_
  refine jc_Vi (hP) lkX9_283 (hw.k rfl) rfl rfl (Nat.le_of_ble_eq_true rfl) (Nat.le_of_ble_eq_true rfl) dX9_text_1 (fun r_1 w_1 h_1 => ?_)
  obtain ⟨rfl, p1, p2, p3, p4, p5, p6, p7⟩ := h_1
  exact K _ p1 p2 p3 p4 p5 p6 p7
