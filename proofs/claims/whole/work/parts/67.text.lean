-- the class: text
/-- cells may be new; old ones changed only in S, their references only in P -/
def Ex (S P : Nat → Prop) (w w' : Wd) : Prop := wn w ≤ wn w' ∧ (∀ i, i < wn w → wsh w' i = wsh w i) ∧ (∀ i, i < wn w → ¬ S i → wI w' i = wI w i) ∧ ∀ i, i < wn w → ¬ P i → wF w' i = wF w i
theorem Ex.rf {S P : Nat → Prop} {w : Wd} : Ex S P w w := ⟨Nat.le_refl _, fun _ _ => rfl, fun _ _ _ => rfl, fun _ _ _ => rfl⟩
theorem Ex.tr {S P : Nat → Prop} {w w1 w2 : Wd} (h1 : Ex S P w w1) (h2 : Ex S P w1 w2) : Ex S P w w2 := by
  have hl := h1.1
  exact ⟨Nat.le_trans h1.1 h2.1, fun i hi => (h2.2.1 i (by omega)).trans (h1.2.1 i hi), fun i hi hs => (h2.2.2.1 i (by omega) hs).trans (h1.2.2.1 i hi hs), fun i hi hs => (h2.2.2.2 i (by omega) hs).trans (h1.2.2.2 i hi hs)⟩
theorem Ex.mono {S P S' P' : Nat → Prop} {w w1 : Wd} (h : Ex S P w w1) (hs : ∀ i, S i → S' i) (hp : ∀ i, P i → P' i) : Ex S' P' w w1 :=
  ⟨h.1, h.2.1, fun i hi e => h.2.2.1 i hi (fun e' => e (hs i e')), fun i hi e => h.2.2.2 i hi (fun e' => e (hp i e'))⟩
theorem Sq.ex {S P : Nat → Prop} {w w1 : Wd} (h : Sq S P w w1) : Ex S P w w1 := ⟨by rw [h.1]; exact Nat.le_refl _, fun i _ => by rw [h.2.1], fun i _ e => h.2.2.1 i e, fun i _ e => h.2.2.2 i e⟩
theorem Sm.ex {S P : Nat → Prop} {w w1 : Wd} (h : Sm S w w1) : Ex S P w w1 := (Sm.sq h).ex
theorem NwT.ex {S P : Nat → Prop} {w w1 : Wd} {m : Nat} (h : NwT w w1 m) : Ex S P w w1 := ⟨by rw [h.1]; omega, h.2.1, fun i hi _ => (h.2.2.1 i hi).1, fun i hi _ => (h.2.2.1 i hi).2⟩
theorem Ex.K {S P : Nat → Prop} {w w1 : Wd} (h : Ex S P w w1) {a kd n : Nat} (hk : jK w a kd n) : jK w1 a kd n := by
  have := h.1
  exact ⟨Nat.lt_of_lt_of_le hk.1 this, by rw [h.2.1 a hk.1]; exact hk.2⟩
theorem TxR.ex {S P : Nat → Prop} {w w' : Wd} {b : Nat} {s : Nat → Int32} {t : Nat} (h : TxR w b s t) (hE : Ex S P w w') (hn : ∀ i, 98 ≤ i → ¬ i % 3 = 1 → ¬ S i) (hp : ∀ i, 98 ≤ i → ¬ P i) : TxR w' b s t := by
  obtain ⟨⟨h0, h0'⟩, h1, h2, h3, h4, h5, h6, h7, h8⟩ := h
  have e1 := hE.2.2.1 b h1.1 (hn b h0 (by omega))
  have e2 := hE.2.2.1 (b + 1) h2.1 (hn (b + 1) (by omega) (by omega))
  have e3 := hE.2.2.2 b h1.1 (hp b h0)
  exact ⟨⟨h0, h0'⟩, hE.K h1, hE.K h2, hE.K h3, by rw [e3]; exact h4, by rw [e3]; exact h5, by rw [e1]; exact h6, by rw [e1]; exact h7, fun k hk => by rw [e2]; exact h8 k hk⟩
theorem NR.ex {S P : Nat → Prop} {w w' : Wd} {a : Nat} {s : Nat → Int32} (h : NR w a s) (hA : NA a) (hw : Wf w) (hE : Ex S P w w') (hn : ∀ i, (a ≤ i ∧ i ≤ a + 10) ∨ (98 ≤ i ∧ ¬ i % 3 = 1) → ¬ S i) (hp : ∀ i, i = a + 3 ∨ 98 ≤ i → ¬ P i) : NR w' a s := by
  obtain ⟨h1, h2, h3, h4, h5⟩ := h
  have hl := hA.le
  have lt : ∀ i, i ≤ a + 10 → i < wn w := fun i hi => hw.lt (by omega)
  refine ⟨?_, ?_, ?_, ?_, ?_⟩
  · rw [hE.2.2.1 a (lt _ (by omega)) (hn a (by omega))]; exact h1
  · rw [hE.2.2.1 _ (lt _ (by omega)) (hn (a + 2) (by omega))]; exact h2
  · intro k hk
    rw [hE.2.2.1 _ (lt _ (by omega)) (hn (a + 5 + k) (by omega))]; exact h3 k hk
  · rw [hE.2.2.1 _ (lt _ (by omega)) (hn (a + 4) (by omega))]; exact h4
  · intro t ht
    obtain ⟨b, hb1, hb2⟩ := h5 t ht
    exact ⟨b, by rw [hE.2.2.2 _ (lt _ (by omega)) (hp (a + 3) (by omega))]; exact hb1, hb2.ex hE (fun i h1 h2 => hn i (Or.inr ⟨h1, h2⟩)) (fun i h1 => hp i (Or.inr h1))⟩
theorem TxW.ex {S P : Nat → Prop} {w w' : Wd} {a : Nat} (h : TxW w a) (hA : NA a) (hw : Wf w) (hE : Ex S P w w') (hp : ¬ P (a + 3)) : TxW w' a := by
  intro t ht
  have hl := hA.le
  rw [hE.2.2.2 _ (hw.lt (by omega)) hp]
  rcases h t ht with e | ⟨c, e, hc⟩
  · exact Or.inl e
  · exact Or.inr ⟨c, e, hE.K hc⟩
theorem NR.same {w : Wd} {a : Nat} {s s' : Nat → Int32} (h : NR w a s) (hX : ∀ t, t < sN s 1 → TxOk s t) (hS : SameX s s') (e : ∀ j, j < 40 → s' j = s j) : NR w a s' := by
  obtain ⟨⟨n1, n2, n3, n4, n5, n6, n7, n8, n10, n12⟩, h2, h3, h4, h5⟩ := h
  refine ⟨⟨by rw [e _ (by decide)]; exact n1, by rw [e _ (by decide)]; exact n2, by rw [e _ (by decide)]; exact n3, by rw [e _ (by decide)]; exact n4, by rw [e _ (by decide)]; exact n5, by rw [e _ (by decide)]; exact n6, by rw [e _ (by decide)]; exact n7, by rw [e _ (by decide)]; exact n8, by rw [e _ (by decide)]; exact n10, by rw [e _ (by decide)]; exact n12⟩, fun j hj => by rw [e _ (by omega)]; exact h2 j hj, fun k hk => ⟨by rw [e _ (by omega)]; exact (h3 k hk).1, by rw [e _ (by omega)]; exact (h3 k hk).2.1, by rw [e _ (by omega)]; exact (h3 k hk).2.2⟩, fun q hq => by rw [lwF_same hS]; exact h4 q hq, h5.same hS hX⟩
/-- one more text -/
theorem NR.add {w3 : Wd} {s s' : Nat → Int32} {k key x : Nat} (hw : Wf w3) (hN : NR w3 1 s) (hX : ∀ t, t < sN s 1 → TxOk s t) (h1 : sN s 1 = k) (hk : k < 14) (hkey : key < 3) (e40 : ∀ j, j < 40 → j ≠ 1 → s' j = s j) (e1 : s' 1 = nI (k + 1)) (eT : ∀ t, t < k → SameT s s' t) (eK : s' (40 + 200 * k) = nI key) (hT : TxR w3 x s' k) :
    NR (sR (sR (sP w3 4 (uF (wF w3 4) k (some x))) 5 (upd (wI w3 5) key (nI k))) 1 (upd (wI w3 1) 12 (nI (k + 1)))) 1 s' := by
  obtain ⟨⟨n1, n2, n3, n4, n5, n6, n7, n8, n10, n12⟩, h2, h3, h4, h5⟩ := hN
  have eN : sN s' 1 = k + 1 := sN_of e1 (by omega)
  have hE : Ex (fun i => i = 1 ∨ i = 5) (fun i => i = 4) w3 (sR (sR (sP w3 4 (uF (wF w3 4) k (some x))) 5 (upd (wI w3 5) key (nI k))) 1 (upd (wI w3 1) 12 (nI (k + 1)))) :=
    Sq.ex (((Sq.sP (P := fun i => i = 4) rfl).tr (Sq.sR (Or.inr rfl))).tr (Sq.sR (Or.inl rfl)))
  have hx1 : ∀ i, 98 ≤ i → ¬ i % 3 = 1 → ¬ (i = 1 ∨ i = 5) := fun i a _ => by omega
  have hx2 : ∀ i, 98 ≤ i → ¬ i = 4 := fun i a => by omega
  refine ⟨?_, ?_, ?_, ?_, ?_⟩
  · rw [wI_sR_s]
    refine ⟨?_, ?_, ?_, ?_, ?_, ?_, ?_, ?_, ?_, ?_⟩
    · rw [pk_un (by decide), e40 _ (by decide) (by decide)]; exact n1
    · rw [pk_un (by decide), e40 _ (by decide) (by decide)]; exact n2
    · rw [pk_un (by decide), e40 _ (by decide) (by decide)]; exact n3
    · rw [pk_un (by decide), e40 _ (by decide) (by decide)]; exact n4
    · rw [pk_un (by decide), e40 _ (by decide) (by decide)]; exact n5
    · rw [pk_un (by decide), e40 _ (by decide) (by decide)]; exact n6
    · rw [pk_un (by decide), e40 _ (by decide) (by decide)]; exact n7
    · rw [pk_un (by decide), e40 _ (by decide) (by decide)]; exact n8
    · rw [pk_un (by decide), e40 _ (by decide) (by decide)]; exact n10
    · rw [pk_us, e1]
  · intro j hj
    rw [wI_sR_n _ (by decide), wI_sR_n _ (by decide), e40 _ (by omega) (by omega)]
    exact h2 j hj
  · intro q hq
    rw [wI_sR_n _ (by omega), wI_sR_n _ (by omega), e40 _ (by omega) (by omega), e40 _ (by omega) (by omega), e40 _ (by omega) (by omega)]
    exact h3 q hq
  · intro q hq
    rw [wI_sR_n _ (by decide), wI_sR_s]
    unfold lwF
    rw [eN]
    have ec0 : cntF s' (nI q) (k + 1) = if s' (40 + 200 * k) = nI q then nI k else cntF s' (nI q) k := rfl
    by_cases e : q = key
    · subst e
      rw [if_pos eK] at ec0
      rw [pk_us, ec0, if_neg (by rw [i_nI (by omega)]; omega)]
    · rw [if_neg (fun h => e (nI_inj (by omega) (by omega) (h.symm.trans eK)))] at ec0
      have ec : cntF s' (nI q) k = cntF s (nI q) (sN s 1) := by
        rw [h1]
        exact cnt_congr _ (fun t ht => eT t ht _ (by omega) (by omega))
      rw [pk_un e, ec0, ec]
      exact h4 q hq
  · intro t ht
    rw [eN] at ht
    by_cases e : t = k
    · subst e
      exact ⟨x, (congrFun (wF_sP_s w3 4 (uF (wF w3 4) t (some x))) t).trans (uF_s _ _ _), hT.ex hE hx1 hx2⟩
    · obtain ⟨b, hb1, hb2⟩ := h5 t (by omega)
      exact ⟨b, (congrFun (wF_sP_s w3 4 (uF (wF w3 4) k (some x))) t).trans ((uF_n _ _ e).trans hb1), (hb2.same (hX t (by omega)) (eT t (by omega))).ex hE hx1 hx2⟩
/-- a text that was not taken has changed nothing that counts -/
theorem pr_X {T : Nat → Int32} {n : Nat} {nu le : Int32} {s : Nat → Int32} (hn : n ≤ 96) (h14 : sN s 1 ≤ 14) : SameX s (prF T n nu le s).2.2.2.2.2.2 ∧ ∀ j, j < 40 → (prF T n nu le s).2.2.2.2.2.2 j = s j := by
  have h := fun j hj => pr_fr (T := T) (nu := nu) (le := le) (s := s) hn j (Or.inl hj)
  have ha := at0_le s
  have hb : 40 + 200 * sN s 1 ≤ at0F s := by unfold at0F; split <;> omega
  exact ⟨⟨h 1 (by omega), fun t ht j h1 h2 => h j (by omega)⟩, fun j hj => h j (by omega)⟩
theorem tx_facts {q : PS} {s : Nat → Int32} {ky : Int32} {k m : Nat} (hm : q.2.2.2.1 = m) (hm2 : m ≤ 93) (h : ∀ j, j < 40 + 200 * k → q.2.2.2.2.2 j = s j) :
    (∀ j, j < 40 → j ≠ 1 → txR q ky k j = s j) ∧ txR q ky k 1 = nI (k + 1) ∧ (∀ t, t < k → SameT s (txR q ky k) t) ∧ txR q ky k (40 + 200 * k) = ky ∧ txR q ky k (40 + 200 * k + 1) = nI q.2.2.2.2.1 ∧ txR q ky k (40 + 200 * k + 2) = nI m ∧ tMany (txR q ky k) k = m ∧ ∀ j, 40 + 200 * k + 4 ≤ j → txR q ky k j = q.2.2.2.2.2 j := by
  unfold txR
  have e2 : txR q ky k (40 + 200 * k + 2) = nI m := by
    unfold txR
    rw [pk_un (by omega), pk_us, hm]
  refine ⟨fun j h1 h2 => ?_, pk_us, fun t ht j h1 h2 => ?_, ?_, ?_, e2, sN_of e2 (by omega), fun j hj => ?_⟩
  · rw [pk_un h2, pk_un (by omega), pk_un (by omega), pk_un (by omega)]; exact h j (by omega)
  · rw [pk_un (by omega), pk_un (by omega), pk_un (by omega), pk_un (by omega)]; exact h j (by omega)
  · rw [pk_un (by omega), pk_un (by omega), pk_un (by omega)]; exact pk_us
  · rw [pk_un (by omega), pk_un (by omega), pk_us]
  · rw [pk_un (by omega), pk_un (by omega), pk_un (by omega), pk_un (by omega)]
theorem pr_m {T : Nat → Int32} {n key a0 : Nat} {p q : PS} {sg : Int} (h1 : PI T n 93 p) (h2 : Wk key a0 93 0 sg p q) (h3 : TkI T n q.1) : q.2.2.2.1 ≤ 93 := by
  have a1 := h1.2.2.2
  have a2 := h2.2.1
  have a3 := h3.1
  have a4 := h3.2.1
  omega
def scTx : Nat → Prop := fun i => i = 0 ∨ i = 1 ∨ i = 5 ∨ i = 43 ∨ i = 45
def pTx : Nat → Prop := fun i => i = 4 ∨ i = 43
theorem p_text (g : Cx) (w : Wd) (hw : Wf w) (s : Nat → Int32) (hG : Gd s) (hN : NR w 1 s) (T : Nat → Int32) (n : Nat) (hn : n ≤ 96) (hTB : TpB T n) (hB : ∀ j, j < n → wI w 46 j = sx8 (T j)) (h8 : wI w 0 8 = nI n) (hwn : 98 ≤ wn w ∧ wn w % 3 = 2) (nu le : Int32) : CI g yX8_text cX8_text 2 (some .int) 142 3 200 [.ref (gb g + 0)] w
    (fun r w' => r = F_text T n nu le s ∧ Wf w' ∧ NR w' 1 (S_text T n nu le s) ∧ (TxW w 1 → TxW w' 1) ∧ wI w' 0 = upd (wI w 0) 8 0 ∧ (wn w' = wn w ∨ wn w' = wn w + 3) ∧ Ex scTx pTx w w') := by
  have h14 : sN s 1 ≤ 14 := hG.2.1.2
  have hs1 : s 1 = nI (sN s 1) := hG.2.1.1
  have hX := hG.2.2.2.2.2.2.2.2
  have hok := pr_ok (T := T) (n := n) (nu := nu) (le := le) (s := s) hn
  obtain ⟨pX, p40⟩ := pr_X (T := T) (n := n) (nu := nu) (le := le) (s := s) hn h14
  have hlow := fun j hj => pr_fr (T := T) (nu := nu) (le := le) (s := s) hn j (Or.inl hj)
  have hw1 : Wf (sR w 0 (upd (wI w 0) 8 0)) := hw.sR _ _
  have hRT := c_readText g (sR w 0 (upd (wI w 0) 8 0)) hw1 T n hn hTB (fun j hj => by rw [wI_sR_n _ (by decide)]; exact hB j hj) nu le s
  have eF : F_text T n nu le s = if (prF T n nu le s).1 = true then (if sN s 1 = 14 then -1000000003 else nI (sN s 1)) else -100 - nI (prF T n nu le s).2.1.1 := rfl
  have eS : S_text T n nu le s = if (prF T n nu le s).1 = true ∧ ¬ sN s 1 = 14 then txR (prF T n nu le s).2 (kyF T n nu le) (sN s 1) else (prF T n nu le s).2.2.2.2.2.2 := rfl
  generalize prF T n nu le s = r at hRT hok eF eS pX p40 hlow
  generalize kyF T n nu le = ky at hRT hok eS
  rw [eF, eS]
  refine CI.of (own := RX8) (nm := "text") (lv := [some (.ref (gb g + 0)), none]) (by decide) rfl rfl (Nat.le_of_ble_eq_true rfl) rfl (fun Q hQ => ?_)
  have K : ∀ w2, wI w2 43 3 = nI r.2.1.1 → (r.1 = true → ∃ key, key ≤ 2 ∧ ky = nI key ∧ CsP w2 key (at0F s) r.2) → Sm scRd (sP (sR w 0 (upd (wI w 0) 8 0)) 43 (uF (wF (sR w 0 (upd (wI w 0) 8 0)) 43) 0 (some 46))) w2 → RR g RX8 cX8_text 2 (some .int) "text" 142 3 200 3 200 22 [some (.ref (gb g + 0)), some (.int (nI n))] [.int (jb (r.1 = true))] w2 Q := by
    intro w2 h3 hP hS
    have hw2 : Wf w2 := hS.wf (wf43 hw1 _)
    have n2 : wn w2 = wn w := by
      obtain ⟨J, rfl, -⟩ := hS
      rfl
    have hE : Ex scTx pTx w w2 := by
      have a1 : Ex scTx pTx w (sR w 0 (upd (wI w 0) 8 0)) := Sq.ex (Sq.sR (Or.inl rfl))
      have a2 : Ex scTx pTx (sR w 0 (upd (wI w 0) 8 0)) (sP (sR w 0 (upd (wI w 0) 8 0)) 43 (uF (wF (sR w 0 (upd (wI w 0) 8 0)) 43) 0 (some 46))) := Sq.ex (Sq.sP (Or.inr rfl))
      exact (a1.tr a2).tr (Sm.ex (hS.mono (fun i h => by rcases h with e | e <;> (unfold scTx; omega))))
    have i0 : wI w2 0 = upd (wI w 0) 8 0 := by
      rw [hS.row (fun e => by unfold scRd at e; omega), wI_sP, wI_sR_s]
    have i1 : wI w2 1 = wI w 1 := by
      rw [hS.row (fun e => by unfold scRd at e; omega), wI_sP, wI_sR_n _ (by decide)]
    have hE1 : Ex (fun i => i = 0 ∨ i = 43 ∨ i = 45) (fun i => i = 43) w w2 := by
      have a1 : Ex (fun i => i = 0 ∨ i = 43 ∨ i = 45) (fun i => i = 43) w (sR w 0 (upd (wI w 0) 8 0)) := Sq.ex (Sq.sR (Or.inl rfl))
      have a2 : Ex (fun i => i = 0 ∨ i = 43 ∨ i = 45) (fun i => i = 43) (sR w 0 (upd (wI w 0) 8 0)) (sP (sR w 0 (upd (wI w 0) 8 0)) 43 (uF (wF (sR w 0 (upd (wI w 0) 8 0)) 43) 0 (some 46))) := Sq.ex (Sq.sP rfl)
      exact (a1.tr a2).tr (Sm.ex (hS.mono (fun i h => by rcases h with e | e <;> omega)))
    have hN2 : NR w2 1 s := hN.ex NA1 hw hE1 (fun i h => by omega) (fun i h => by omega)
    have hT2 : TxW w 1 → TxW w2 1 := fun h => h.ex NA1 hw hE1 (by decide)
    by_cases hb : r.1 = true
    · by_cases hc : sN s 1 = 14
      · refine jr_if_ne 36 dX8_text_22 (by decide) (fun c_22 => ?_) (fun c_22 => absurd c_22 (jb_1.mpr hb))
        refine jr_aload_n dX8_text_36 rfl ?_
        refine gfX8_12 1 dX8_text_37 (hw2.k rfl) (hw2.f rfl) ?_
        refine gfX8_243 dX8_text_40 (hw2.k rfl) ?_
        rw [i1, hN.1.2.2.2.2.2.2.2.2.2, hs1, hc]
        refine jr_bipush (14) dX8_text_43 (by decide) ?_
        refine jr_icmp_lt 51 dX8_text_45 (by decide) (fun c_45 => absurd c_45 (by decide)) (fun c_45 => ?_)
        refine jr_ldc (-1000000003) ckX8_84 dX8_text_48 ?_
        refine jr_iret rfl dX8_text_50 ?_
        refine hQ _ _ ⟨by rw [if_pos hb, if_pos hc], hw2, ?_, hT2, i0, Or.inl n2, hE⟩
        rw [if_neg (fun h => h.2 hc)]
        exact hN2.same hX pX p40
      · obtain ⟨key, hk2, hky, hCP⟩ := hP hb
        obtain ⟨key', -, -, -, hPI, hWk, hTk⟩ := hok hb
        obtain ⟨m, em⟩ : ∃ m, m = r.2.2.2.2.1 := ⟨_, rfl⟩
        have hm : m ≤ 93 := by rw [em]; exact pr_m hPI hWk hTk
        have hk14 : sN s 1 < 14 := by omega
        have ea : at0F s = 40 + 200 * sN s 1 + 4 := by rw [at0F, if_pos hk14]
        obtain ⟨t1, t2, t3, t4, t5, t6, t7, t8⟩ := tx_facts (q := r.2) (s := s) (ky := ky) (k := sN s 1) em.symm hm (fun j hj => hlow j (by omega))
        have hNT := c_newText g w2 hw2 m (by omega) (by rw [em]; exact hCP.2.2.1)
        have h12 : wI w2 1 12 = nI (sN s 1) := by rw [i1, hN.1.2.2.2.2.2.2.2.2.2]; exact hs1
        refine jr_if_ne 36 dX8_text_22 (by decide) (fun c_22 => ?_) (fun c_22 => absurd c_22 (jb_1.mpr hb))
        refine jr_aload_n dX8_text_36 rfl ?_
        refine gfX8_12 1 dX8_text_37 (hw2.k rfl) (hw2.f rfl) ?_
        refine gfX8_243 dX8_text_40 (hw2.k rfl) ?_
        rw [h12]
        refine jr_bipush (14) dX8_text_43 (by decide) ?_
        refine jr_icmp_lt 51 dX8_text_45 (by decide) (fun c_45 => ?_) (fun c_45 => absurd (by rw [jlit 14]; exact nI_lt hk14 (by decide)) c_45)
        refine jr_aload_n dX8_text_51 rfl ?_
        refine gfX8_12 1 dX8_text_52 (hw2.k rfl) (hw2.f rfl) ?_
        refine jr_aload_n dX8_text_55 rfl ?_
        refine gfX8_43 43 dX8_text_56 (hw2.k rfl) (hw2.f rfl) ?_
        refine jr_callV hNT lkX8_246 (hw2.k rfl) rfl rfl (Nat.le_of_ble_eq_true rfl) (Nat.le_of_ble_eq_true rfl) (by decide) dX8_text_59 (fun v_59 w_59 h_59 => ?_)
        obtain ⟨r_59, rfl, rfl, hNw⟩ := h_59
        have hw3 := hNw.wf hw2
        have r3 : wI w_59 1 = wI w2 1 := (hNw.2.2.1 1 (hw2.lt (by decide))).1
        have hAT := c_addText g w_59 hw3 1 NA1 (wn w2) (sN s 1) key hNw.2.2.2.1 hk14 (by omega) (by rw [r3]; exact h12) (by rw [hNw.2.2.2.2.2.2.2.2.1]; exact hCP.1)
        refine jc_Vv (hAT) lkX8_250 (hw3.k rfl) rfl rfl (Nat.le_of_ble_eq_true rfl) (Nat.le_of_ble_eq_true rfl) dX8_text_62 (fun w_62 h_62 => ?_)
        obtain rfl := h_62
        refine jr_aload_n dX8_text_65 rfl ?_
        refine gfX8_12 1 dX8_text_66 (by exact hw3.k rfl) (by exact hw3.f rfl) ?_
        refine gfX8_243 dX8_text_69 (by exact hw3.k rfl) ?_
        rw [wI_sR_s, pk_us]
        refine jr_iconst (1) dX8_text_72 (by decide) ?_
        refine jr_isub dX8_text_73 ?_
        rw [nI_pred]
        refine jr_iret rfl dX8_text_74 ?_
        refine hQ _ _ ⟨by rw [if_pos hb, if_neg hc], ?_, ?_, ?_, ?_, Or.inr ?_, ?_⟩
        · have q1 : Wf (sP w_59 4 (uF (wF w_59 4) (sN s 1) (some (wn w2)))) := (Sq.sP (S := fun _ => False) (P := fun i => i = 4) rfl).wf hw3 (fun i e k => by subst e; exact RF_txt NA1 k)
          exact (q1.sR _ _).sR _ _
        · rw [if_pos ⟨hb, hc⟩]
          have hN3 : NR w_59 1 s := hN2.ex (S := fun _ => False) (P := fun _ => False) NA1 hw2 hNw.ex (fun _ _ h => h) (fun _ _ h => h)
          refine NR.add hw3 hN3 hX rfl hk14 (by omega) t1 t2 t3 (t4.trans hky) ?_
          refine ⟨by rw [n2]; exact hwn, hNw.2.2.2.1, by rw [t7]; exact hNw.2.2.2.2.1, by rw [t7]; exact hNw.2.2.2.2.2.1, hNw.2.2.2.2.2.2.1, hNw.2.2.2.2.2.2.2.1, ?_, ?_, ?_⟩
          · rw [hNw.2.2.2.2.2.2.2.2.1, t4, hky]; exact hCP.1
          · rw [hNw.2.2.2.2.2.2.2.2.2.1, t5]; exact hCP.2.1
          · intro k hk
            rw [t7] at hk
            rw [hNw.2.2.2.2.2.2.2.2.2.2 k hk, t8 _ (by omega), t8 _ (by omega), hCP.2.2.2 k (by rw [← em]; exact hk), ea]
        · intro hT t ht
          have e9 := fun t => congrFun (wF_sP_s w_59 (1 + 3) (uF (wF w_59 (1 + 3)) (sN s 1) (some (wn w2)))) t
          by_cases e : t = sN s 1
          · subst e
            exact Or.inr ⟨_, (e9 _).trans (uF_s _ _ _), hNw.2.2.2.1⟩
          · have hT3 : TxW w_59 1 := (hT2 hT).ex (S := fun _ => False) (P := fun _ => False) NA1 hw2 hNw.ex (fun h => h)
            rcases hT3 t ht with e' | ⟨c, e', hc⟩
            · exact Or.inl ((e9 t).trans ((uF_n _ _ e).trans e'))
            · exact Or.inr ⟨c, (e9 t).trans ((uF_n _ _ e).trans e'), hc⟩
        · rw [wI_sR_n _ (by decide), wI_sR_n _ (by decide), wI_sP, (hNw.2.2.1 0 (hw2.lt (by decide))).1]; exact i0
        · show wn w_59 = _
          rw [hNw.1, n2]
        · refine (hE.tr hNw.ex).tr (Sq.ex (((Sq.sP (Or.inl rfl)).tr (Sq.sR (Or.inr (Or.inr (Or.inl rfl))))).tr (Sq.sR (Or.inr (Or.inl rfl)))))
    · refine jr_if_ne 36 dX8_text_22 (by decide) (fun c_22 => absurd (jb_f hb) c_22) (fun c_22 => ?_)
      refine jr_bipush (-100) dX8_text_25 (by decide) ?_
      refine jr_aload_n dX8_text_27 rfl ?_
      refine gfX8_43 43 dX8_text_28 (hw2.k rfl) (hw2.f rfl) ?_
      refine gfX8_240 dX8_text_31 (hw2.k rfl) ?_
      rw [h3]
      refine jr_isub dX8_text_34 ?_
      refine jr_iret rfl dX8_text_35 ?_
      refine hQ _ _ ⟨by rw [if_neg hb], hw2, ?_, hT2, i0, Or.inl n2, hE⟩
      rw [if_neg (fun h => hb h.1)]
      exact hN2.same hX pX p40
  refine jr_aload_n dX8_text_0 rfl ?_
  refine gfX8_51 dX8_text_1 (hw.k rfl) ?_
  rw [h8]
  refine jr_istore_1 dX8_text_4 (by decide) rfl ?_
  refine jr_aload_n dX8_text_5 rfl ?_
  refine jr_iconst (0) dX8_text_6 (by decide) ?_
  refine pfX8_51 dX8_text_7 (hw.k rfl) ?_
  refine jr_aload_n dX8_text_10 rfl ?_
  refine gfX8_43 43 dX8_text_11 (hw1.k rfl) (hw1.f rfl) ?_
  refine jr_aload_n dX8_text_14 rfl ?_
  refine gfX8_47 46 dX8_text_15 (hw1.k rfl) (hw1.f rfl) ?_
  refine jr_iload_n dX8_text_18 rfl ?_
  refine jc_Vi (hRT) lkX8_236 (hw1.k rfl) rfl rfl (Nat.le_of_ble_eq_true rfl) (Nat.le_of_ble_eq_true rfl) dX8_text_19 (fun r_19 w_19 h_19 => ?_)
  obtain ⟨rfl, z1, z2, z3⟩ := h_19
  exact K _ z1 z2 z3
