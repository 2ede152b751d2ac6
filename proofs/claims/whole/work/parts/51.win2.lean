-- the class: groups of times and their parts
theorem c_partOf (g : Cx) (w : Wd) (hw : Wf w) (gid c : Nat) (hg : gid < 720) (hc : c < 720) (h5 : wI w 37 5 = nI c) (l : List Nat) (hh : wI w 39 gid = hdI l) (hl : Lk (wI w 40) l) (hb : ∀ p, p ∈ l → p < 720) (hlen : l.length < 720) (tot hr : Int32) : CI g yX7_partOf cX7_partOf 6 (some .int) 2 0 0 [.ref (gb g + 37), .int (nI gid), .int tot, .int hr] w
    (fun r w' => (∃ p, p ∈ l ∧ wI w 41 p = tot ∧ r = nI p ∧ w' = w) ∨ ((∀ p, p ∈ l → ¬ wI w 41 p = tot) ∧ r = nI c ∧ w' = sR (sR (sR (sR (sR w 41 (upd (wI w 41) c tot)) 42 (upd (wI w 42) c hr)) 40 (upd (wI w 40) c (wI w 39 gid))) 39 (upd (wI w 39) gid (nI c))) 37 (upd (wI w 37) 5 (nI (c + 1))))) := by
  refine CI.of (own := RX7) (nm := "partOf") (lv := [some (.ref (gb g + 37)), some (.int (nI gid)), some (.int tot), some (.int hr), none, none]) (by decide) rfl rfl (Nat.le_of_ble_eq_true rfl) rfl (fun Q hQ => ?_)
  have ec : (if (719 : Int32).toInt < (nI c).toInt then 719 else nI c) = nI c := by
    have e7 : (719 : Int32).toInt = 719 := rfl
    rw [e7, i_nI (by omega), if_neg (by omega)]
  have K53 : (∀ p, p ∈ l → ¬ wI w 41 p = tot) → ∀ (x4 : Int32) (a5 : Option Value), RR g RX7 cX7_partOf 6 (some .int) "partOf" 2 0 0 0 0 53 [some (.ref (gb g + 37)), some (.int (nI gid)), some (.int tot), some (.int hr), some (.int x4), a5] [] w Q := by
    intro hno x4 a5
    refine jr_aload_n dX7_partOf_53 rfl ?_
    refine gfX7_27 dX7_partOf_54 (hw.k rfl) ?_
    rw [h5]
    refine jr_sipush (719) dX7_partOf_57 (by decide) ?_
    refine jc_Si (c_min g _ _ _) lkX7_52 rfl rfl (Nat.le_of_ble_eq_true rfl) (Nat.le_of_ble_eq_true rfl) dX7_partOf_60 (fun r_60 w_60 h_60 => ?_)
    obtain ⟨rfl, rfl⟩ := h_60
    rw [ec]
    refine jr_istore_5 dX7_partOf_63 (by decide) rfl ?_
    refine jr_aload_n dX7_partOf_65 rfl ?_
    refine gfX7_21 41 dX7_partOf_66 (hw.k rfl) (hw.f rfl) ?_
    refine jr_iload dX7_partOf_69 rfl ?_
    refine jr_iload_n dX7_partOf_71 rfl ?_
    refine jr_iast c (hw.k rfl) rfl ⟨hc, by decide⟩ dX7_partOf_72 ?_
    refine jr_aload_n dX7_partOf_73 rfl ?_
    refine gfX7_24 42 dX7_partOf_74 (hw.k rfl) (hw.f rfl) ?_
    refine jr_iload dX7_partOf_77 rfl ?_
    refine jr_iload_n dX7_partOf_79 rfl ?_
    refine jr_iast c (hw.k rfl) rfl ⟨hc, by decide⟩ dX7_partOf_80 ?_
    rw [wI_sR_n _ (by decide)]
    refine jr_aload_n dX7_partOf_81 rfl ?_
    refine gfX7_18 40 dX7_partOf_82 (hw.k rfl) (hw.f rfl) ?_
    refine jr_iload dX7_partOf_85 rfl ?_
    refine jr_aload_n dX7_partOf_87 rfl ?_
    refine gfX7_15 39 dX7_partOf_88 (hw.k rfl) (hw.f rfl) ?_
    refine jr_iload_n dX7_partOf_91 rfl ?_
    refine jr_iald gid (hw.k rfl) rfl ⟨hg, by decide⟩ dX7_partOf_92 ?_
    rw [wI_sR_n _ (by decide), wI_sR_n _ (by decide)]
    refine jr_iast c (hw.k rfl) rfl ⟨hc, by decide⟩ dX7_partOf_93 ?_
    rw [wI_sR_n _ (by decide), wI_sR_n _ (by decide)]
    refine jr_aload_n dX7_partOf_94 rfl ?_
    refine gfX7_15 39 dX7_partOf_95 (hw.k rfl) (hw.f rfl) ?_
    refine jr_iload_n dX7_partOf_98 rfl ?_
    refine jr_iload dX7_partOf_99 rfl ?_
    refine jr_iast gid (hw.k rfl) rfl ⟨hg, by decide⟩ dX7_partOf_101 ?_
    rw [wI_sR_n _ (by decide), wI_sR_n _ (by decide), wI_sR_n _ (by decide)]
    refine jr_aload_n dX7_partOf_102 rfl ?_
    refine jr_dup dX7_partOf_103 rfl ?_
    refine gfX7_27 dX7_partOf_104 (hw.k rfl) ?_
    rw [wI_sR_n _ (by decide), wI_sR_n _ (by decide), wI_sR_n _ (by decide), wI_sR_n _ (by decide), h5]
    refine jr_iconst (1) dX7_partOf_107 (by decide) ?_
    refine jr_iadd dX7_partOf_108 ?_
    rw [jlit 1, nI_add]
    refine pfX7_27 dX7_partOf_109 (hw.k rfl) ?_
    rw [wI_sR_n _ (by decide), wI_sR_n _ (by decide), wI_sR_n _ (by decide), wI_sR_n _ (by decide)]
    refine jr_iload dX7_partOf_112 rfl ?_
    refine jr_iret rfl dX7_partOf_114 ?_
    exact hQ _ _ (Or.inr ⟨hno, rfl, rfl⟩)
  have L : ∀ (r q : List Nat) (i : Nat), q ++ r = l → i = q.length → (∀ p, p ∈ q → ¬ wI w 41 p = tot) → Lk (wI w 40) r → RR g RX7 cX7_partOf 6 (some .int) "partOf" 2 0 0 0 0 11 [some (.ref (gb g + 37)), some (.int (nI gid)), some (.int tot), some (.int hr), some (.int (hdI r)), some (.int (nI i))] [] w Q := by
    intro r
    induction r with
    | nil =>
      intro q i hq hi hno hlk
      have e : q = l := by rw [← hq, List.append_nil]
      subst e
      refine jr_iload dX7_partOf_11 rfl ?_
      refine jr_sipush (720) dX7_partOf_13 (by decide) ?_
      refine jr_icmp_ge 53 dX7_partOf_16 (by decide) (fun c_16 => absurd c_16 (by rw [jlit 720]; exact nI_ge (by omega) (by decide))) (fun c_16 => ?_)
      refine jr_iload dX7_partOf_19 rfl ?_
      refine jr_if_lt 53 dX7_partOf_21 (by decide) (fun c_21 => ?_) (fun c_21 => absurd (by decide) c_21)
      exact K53 hno _ _
    | cons p r ih =>
      intro q i hq hi hno hlk
      have hlen2 : q.length + (r.length + 1) = l.length := by rw [← hq, List.length_append, List.length_cons]
      have hpl : p ∈ l := by rw [← hq]; exact List.mem_append_right _ List.mem_cons_self
      have hp := hb p hpl
      by_cases hpt : wI w 41 p = tot
      · refine jr_iload dX7_partOf_11 rfl ?_
        refine jr_sipush (720) dX7_partOf_13 (by decide) ?_
        refine jr_icmp_ge 53 dX7_partOf_16 (by decide) (fun c_16 => absurd c_16 (by rw [jlit 720]; exact nI_ge (by omega) (by decide))) (fun c_16 => ?_)
        refine jr_iload dX7_partOf_19 rfl ?_
        refine jr_if_lt 53 dX7_partOf_21 (by decide) (fun c_21 => absurd c_21 (nI_pos (by omega))) (fun c_21 => ?_)
        refine jr_aload_n dX7_partOf_24 rfl ?_
        refine gfX7_21 41 dX7_partOf_25 (hw.k rfl) (hw.f rfl) ?_
        refine jr_iload dX7_partOf_28 rfl ?_
        refine jr_iald p (hw.k rfl) rfl ⟨hp, by decide⟩ dX7_partOf_30 ?_
        refine jr_iload_n dX7_partOf_31 rfl ?_
        refine jr_icmp_ne 38 dX7_partOf_32 (by decide) (fun c_32 => absurd hpt c_32) (fun c_32 => ?_)
        refine jr_iload dX7_partOf_35 rfl ?_
        refine jr_iret rfl dX7_partOf_37 ?_
        exact hQ _ _ (Or.inl ⟨p, hpl, hpt, rfl, rfl⟩)
      · have h9 := ih (q ++ [p]) (i + 1) (by rw [List.append_assoc]; exact hq) (by rw [List.length_append, List.length_singleton]; omega) (fun x hx => by
          rcases List.mem_append.mp hx with h | h
          · exact hno x h
          · rw [List.mem_singleton.mp h]; exact hpt) hlk.2
        refine jr_iload dX7_partOf_11 rfl ?_
        refine jr_sipush (720) dX7_partOf_13 (by decide) ?_
        refine jr_icmp_ge 53 dX7_partOf_16 (by decide) (fun c_16 => absurd c_16 (by rw [jlit 720]; exact nI_ge (by omega) (by decide))) (fun c_16 => ?_)
        refine jr_iload dX7_partOf_19 rfl ?_
        refine jr_if_lt 53 dX7_partOf_21 (by decide) (fun c_21 => absurd c_21 (nI_pos (by omega))) (fun c_21 => ?_)
        refine jr_aload_n dX7_partOf_24 rfl ?_
        refine gfX7_21 41 dX7_partOf_25 (hw.k rfl) (hw.f rfl) ?_
        refine jr_iload dX7_partOf_28 rfl ?_
        refine jr_iald p (hw.k rfl) rfl ⟨hp, by decide⟩ dX7_partOf_30 ?_
        refine jr_iload_n dX7_partOf_31 rfl ?_
        refine jr_icmp_ne 38 dX7_partOf_32 (by decide) (fun c_32 => ?_) (fun c_32 => absurd c_32 hpt)
        refine jr_aload_n dX7_partOf_38 rfl ?_
        refine gfX7_18 40 dX7_partOf_39 (hw.k rfl) (hw.f rfl) ?_
        refine jr_iload dX7_partOf_42 rfl ?_
        refine jr_iald p (hw.k rfl) rfl ⟨hp, by decide⟩ dX7_partOf_44 ?_
        rw [hlk.1]
        refine jr_istore_4 dX7_partOf_45 (by decide) rfl ?_
        refine jr_iinc_5 (nI (i + 1)) dX7_partOf_47 (inc1 i) (by decide) rfl ?_
        refine jr_goto 11 dX7_partOf_50 (by decide) ?_
        exact h9
  refine jr_aload_n dX7_partOf_0 rfl ?_
  refine gfX7_15 39 dX7_partOf_1 (hw.k rfl) (hw.f rfl) ?_
  refine jr_iload_n dX7_partOf_4 rfl ?_
  refine jr_iald gid (hw.k rfl) rfl ⟨hg, by decide⟩ dX7_partOf_5 ?_
  rw [hh]
  refine jr_istore_4 dX7_partOf_6 (by decide) rfl ?_
  refine jr_iconst (0) dX7_partOf_8 (by decide) ?_
  refine jr_istore_5 dX7_partOf_9 (by decide) rfl ?_
  exact L l [] 0 rfl rfl (fun p hp => absurd hp (by simp)) hl
def scV : Nat → Prop := fun i => 37 ≤ i ∧ i ≤ 42
/-- behind t times of a split: their parts, the chains of parts, whether hours are unlike -/
def WI (t : Nat) (Go A : Nat → Nat) (w : Wd) (Po Hp : Nat → Nat) (c : Nat) (CL : Nat → List Nat) : Prop :=
  c ≤ t ∧ wI w 37 5 = nI c ∧ (∀ u, u < t → Po u < c ∧ wI w 41 (Po u) = nI (A u) ∧ wI w 38 u = nI (Po u)) ∧ (∀ u, t ≤ u → u < 720 → wI w 38 u = nI (Go u)) ∧
  (∀ q, q < 720 → wI w 39 q = hdI (CL q) ∧ Lk (wI w 40) (CL q) ∧ (CL q).length ≤ c ∧ ∀ p, p ∈ CL q ↔ ∃ u, u < t ∧ Po u = p ∧ Go u = q) ∧
  (∀ u v, u < t → v < t → (Po u = Po v ↔ (Go u = Go v ∧ A u = A v))) ∧ (∀ p, p < c → wI w 42 p = nI (Hp p) ∧ ∃ v, v < t ∧ Po v = p ∧ Hp p = v / 60)
theorem c_split (g : Cx) (w : Wd) (hw : Wf w) (T : Nat → Nat) (hT : AllR (wI w 35) T) (hT96 : ∀ t, T t ≤ 96) (Go : Nat → Nat) (hGo : ∀ u, u < 720 → Go u < 720 ∧ wI w 38 u = nI (Go u)) (ah : Nat) (hah : ah < 60) : CI g yX7_splitLeavesDoubt cX7_splitLeavesDoubt 6 (some .boolean) 3 0 0 [.ref (gb g + 37), .ref (gb g + 35), .int (nI ah)] w
    (fun r w' => Sm scV w w' ∧ ∃ Po : Nat → Nat, (∀ u, u < 720 → Po u < 720 ∧ wI w' 38 u = nI (Po u)) ∧ (∀ u v, u < 720 → v < 720 → (Po u = Po v ↔ (Go u = Go v ∧ T ((u + 720 - ah) % 720) = T ((v + 720 - ah) % 720)))) ∧ ((r = 0 ∧ ∀ u v, u < 720 → v < 720 → Po u = Po v → u / 60 = v / 60) ∨ (r = 1 ∧ ∃ u v, u < 720 ∧ v < 720 ∧ Po u = Po v ∧ ¬ u / 60 = v / 60))) := by
  obtain ⟨A, eA⟩ : ∃ A : Nat → Nat, A = fun u => T ((u + 720 - ah) % 720) := ⟨_, rfl⟩
  have eA2 : ∀ u, T ((u + 720 - ah) % 720) = A u := fun u => by rw [eA]
  have hA96 : ∀ u, A u ≤ 96 := fun u => by rw [eA]; exact hT96 _
  refine CI.of (own := RX7) (nm := "splitLeavesDoubt") (lv := [some (.ref (gb g + 37)), some (.ref (gb g + 35)), some (.int (nI ah)), none, none, none]) (by decide) rfl rfl (Nat.le_of_ble_eq_true rfl) rfl (fun Q hQ => ?_)
  have L : ∀ (f t : Nat) (w1 : Wd) (Po Hp : Nat → Nat) (c : Nat) (CL : Nat → List Nat) (d : Int32) (a5 : Option Value), f + t = 720 → Sm scV w w1 → WI t Go A w1 Po Hp c CL → ((d = 0 ∧ ∀ u v, u < t → v < t → Po u = Po v → u / 60 = v / 60) ∨ (d = 1 ∧ ∃ u v, u < t ∧ v < t ∧ Po u = Po v ∧ ¬ u / 60 = v / 60)) → RR g RX7 cX7_splitLeavesDoubt 6 (some .boolean) "splitLeavesDoubt" 3 0 0 0 0 18 [some (.ref (gb g + 37)), some (.ref (gb g + 35)), some (.int (nI ah)), some (.int d), some (.int (nI t)), a5] [] w1 Q := by
    intro f
    induction f with
    | zero =>
      intro t w1 Po Hp c CL d a5 ht hS hW hd
      have e : t = 720 := by omega
      subst e
      obtain ⟨i1, i2, i3, i4, i5, i6, i7⟩ := hW
      have hnar : narrow .boolean (.int d) = .int d := by
        rcases hd with ⟨e, -⟩ | ⟨e, -⟩ <;> rw [e] <;> decide
      refine jr_iload dX7_splitLeavesDoubt_18 rfl ?_
      refine jr_sipush (720) dX7_splitLeavesDoubt_20 (by decide) ?_
      refine jr_icmp_ge 96 dX7_splitLeavesDoubt_23 (by decide) (fun c_23 => ?_) (fun c_23 => absurd (by decide) c_23)
      refine jr_iload_n dX7_splitLeavesDoubt_96 rfl ?_
      refine jr_zret rfl hnar dX7_splitLeavesDoubt_97 ?_
      exact hQ _ _ ⟨hS, Po, fun u hu => ⟨by have := (i3 u hu).1; omega, (i3 u hu).2.2⟩, fun u v hu hv => by rw [eA2, eA2]; exact i6 u v hu hv, hd⟩
    | succ f ih =>
      intro t w1 Po Hp c CL d a5 ht hS hW hd
      have hw1 := hS.wf hw
      have ht7 : t < 720 := by omega
      obtain ⟨i1, i2, i3, i4, i5, i6, i7⟩ := id hW
      have hgt := (hGo t ht7).1
      obtain ⟨j1, j2, j3, j4⟩ := i5 (Go t) hgt
      have hT1 : wI w1 35 = wI w 35 := hS.row (by unfold scV; omega)
      have hfm : (nI t - nI ah).toInt + 720 = ((t + 720 - ah : Nat) : Int) := by rw [pk_sub_toInt (by omega) (by omega)]; omega
      have hlt : (t + 720 - ah) % 720 < 720 := Nat.mod_lt _ (by decide)
      have e60 : nI t / 60 = nI (t / 60) := pk_div (by omega) (by decide) (by decide)
      -- behind the part is known
      have K54 : ∀ (w2 : Wd) (Po2 Hp2 : Nat → Nat) (c2 : Nat) (CL2 : Nat → List Nat), Sm scV w w2 → c2 ≤ t + 1 → wI w2 37 5 = nI c2 → Po2 t < c2 → wI w2 41 (Po2 t) = nI (A t) → (∀ u, u < t → Po2 u = Po u ∧ Po2 u < c2 ∧ wI w2 41 (Po2 u) = nI (A u) ∧ wI w2 38 u = nI (Po2 u)) → (∀ u, t ≤ u → u < 720 → wI w2 38 u = nI (Go u)) → (∀ q, q < 720 → wI w2 39 q = hdI (CL2 q) ∧ Lk (wI w2 40) (CL2 q) ∧ (CL2 q).length ≤ c2 ∧ ∀ p, p ∈ CL2 q ↔ ∃ u, u < t + 1 ∧ Po2 u = p ∧ Go u = q) → (∀ u v, u < t + 1 → v < t + 1 → (Po2 u = Po2 v ↔ (Go u = Go v ∧ A u = A v))) → (∀ p, p < c2 → wI w2 42 p = nI (Hp2 p) ∧ ∃ v, v < t + 1 ∧ Po2 v = p ∧ Hp2 p = v / 60) → (∀ u, u < t → Po2 u = Po2 t → ∃ v, v < t ∧ Po2 v = Po2 t ∧ Hp2 (Po2 t) = v / 60) → RR g RX7 cX7_splitLeavesDoubt 6 (some .boolean) "splitLeavesDoubt" 3 0 0 0 0 54 [some (.ref (gb g + 37)), some (.ref (gb g + 35)), some (.int (nI ah)), some (.int d), some (.int (nI t)), a5] [.int (nI (Po2 t))] w2 Q := by
        intro w2 Po2 Hp2 c2 CL2 hS2 k1 k2 k3 k3b k4 k5 k6 k7 k8 hH
        have hw2 := hS2.wf hw
        obtain ⟨k8a, v0, hv0, ev0, eh0⟩ := k8 (Po2 t) k3
        have eHt : (nI (Hp2 (Po2 t))).toInt = (Hp2 (Po2 t) : Int) := i_nI (by omega)
        have e60t : (nI (t / 60)).toInt = ((t / 60 : Nat) : Int) := i_nI (by omega)
        have hWI : WI (t + 1) Go A (sR w2 38 (upd (wI w2 38) t (nI (Po2 t)))) Po2 Hp2 c2 CL2 := by
          refine ⟨k1, by rw [wI_sR_n _ (by decide)]; exact k2, fun u hu => ?_, fun u h1 h2 => ?_, fun q hq => ?_, k7, fun p hp => ?_⟩
          · rw [wI_sR_n _ (by decide), wI_sR_s]
            by_cases eu : u = t
            · subst eu
              exact ⟨k3, k3b, pk_us⟩
            · obtain ⟨-, z2, z3, z4⟩ := k4 u (by omega)
              exact ⟨z2, z3, by rw [pk_un eu]; exact z4⟩
          · rw [wI_sR_s, pk_un (by omega)]
            exact k5 u (by omega) h2
          · rw [wI_sR_n _ (by decide), wI_sR_n _ (by decide)]
            exact k6 q hq
          · rw [wI_sR_n _ (by decide)]
            exact k8 p hp
        have hgo : ∀ (d' : Int32), ((d' = 0 ∧ ∀ u v, u < t + 1 → v < t + 1 → Po2 u = Po2 v → u / 60 = v / 60) ∨ (d' = 1 ∧ ∃ u v, u < t + 1 ∧ v < t + 1 ∧ Po2 u = Po2 v ∧ ¬ u / 60 = v / 60)) → RR g RX7 cX7_splitLeavesDoubt 6 (some .boolean) "splitLeavesDoubt" 3 0 0 0 0 18 [some (.ref (gb g + 37)), some (.ref (gb g + 35)), some (.int (nI ah)), some (.int d'), some (.int (nI (t + 1))), some (.int (nI (Po2 t)))] [] (sR w2 38 (upd (wI w2 38) t (nI (Po2 t)))) Q :=
          fun d' hd' => ih (t + 1) _ Po2 Hp2 c2 CL2 d' _ (by omega) (hS2.tr (Sm.sR (by unfold scV; omega))) hWI hd'
        rcases hd with ⟨ed, hd0⟩ | ⟨ed, u0, v1, hu0, hv1, hp0, hh0⟩
        · subst ed
          have hd2 : ∀ u v, u < t → v < t → Po2 u = Po2 v → u / 60 = v / 60 := fun u v hu hv e => hd0 u v hu hv (by rw [← (k4 u hu).1, ← (k4 v hv).1]; exact e)
          by_cases hdiff : Hp2 (Po2 t) = t / 60
          · have hall : ∀ u, u < t + 1 → Po2 u = Po2 t → u / 60 = t / 60 := by
              intro u hu e
              by_cases eu : u = t
              · rw [eu]
              · obtain ⟨v, hv, ev, eh⟩ := hH u (by omega) e
                rw [← hdiff, eh]
                exact hd2 u v (by omega) hv (e.trans ev.symm)
            have h9 := hgo 0 (Or.inl ⟨rfl, fun u v hu hv e => by
              by_cases eu : u = t
              · subst eu
                exact (hall v hv e.symm).symm
              · by_cases ev : v = t
                · subst ev
                  exact hall u hu e
                · exact hd2 u v (by omega) (by omega) e⟩)
            refine jr_istore_5 dX7_splitLeavesDoubt_54 (by decide) rfl ?_
            refine jr_iload_n dX7_splitLeavesDoubt_56 rfl ?_
            refine jr_if_ne 75 dX7_splitLeavesDoubt_57 (by decide) (fun c_57 => absurd (by decide) c_57) (fun c_57 => ?_)
            refine jr_aload_n dX7_splitLeavesDoubt_60 rfl ?_
            refine gfX7_24 42 dX7_splitLeavesDoubt_61 (hw2.k rfl) (hw2.f rfl) ?_
            refine jr_iload dX7_splitLeavesDoubt_64 rfl ?_
            refine jr_iald (Po2 t) (hw2.k rfl) rfl ⟨by omega, by decide⟩ dX7_splitLeavesDoubt_66 ?_
            rw [k8a]
            refine jr_iload dX7_splitLeavesDoubt_67 rfl ?_
            refine jr_bipush (60) dX7_splitLeavesDoubt_69 (by decide) ?_
            refine jr_idiv dX7_splitLeavesDoubt_71 (by decide) ?_
            rw [e60]
            refine jr_icmp_eq 79 dX7_splitLeavesDoubt_72 (by decide) (fun c_72 => ?_) (fun c_72 => absurd (by rw [hdiff]) c_72)
            refine jr_iconst (0) dX7_splitLeavesDoubt_79 (by decide) ?_
            refine jr_istore_3 dX7_splitLeavesDoubt_80 (by decide) rfl ?_
            refine jr_aload_n dX7_splitLeavesDoubt_81 rfl ?_
            refine gfX7_9 38 dX7_splitLeavesDoubt_82 (hw2.k rfl) (hw2.f rfl) ?_
            refine jr_iload dX7_splitLeavesDoubt_85 rfl ?_
            refine jr_iload dX7_splitLeavesDoubt_87 rfl ?_
            refine jr_iast t (hw2.k rfl) rfl ⟨ht7, by decide⟩ dX7_splitLeavesDoubt_89 ?_
            refine jr_iinc_4 (nI (t + 1)) dX7_splitLeavesDoubt_90 (inc1 t) (by decide) rfl ?_
            refine jr_goto 18 dX7_splitLeavesDoubt_93 (by decide) ?_
            exact h9
          · have h9 := hgo 1 (Or.inr ⟨rfl, by
              by_cases ev : v0 = t
              · rw [ev] at eh0
                exact absurd eh0 hdiff
              · exact ⟨v0, t, hv0, by omega, ev0, fun e => hdiff (eh0.trans e)⟩⟩)
            refine jr_istore_5 dX7_splitLeavesDoubt_54 (by decide) rfl ?_
            refine jr_iload_n dX7_splitLeavesDoubt_56 rfl ?_
            refine jr_if_ne 75 dX7_splitLeavesDoubt_57 (by decide) (fun c_57 => absurd (by decide) c_57) (fun c_57 => ?_)
            refine jr_aload_n dX7_splitLeavesDoubt_60 rfl ?_
            refine gfX7_24 42 dX7_splitLeavesDoubt_61 (hw2.k rfl) (hw2.f rfl) ?_
            refine jr_iload dX7_splitLeavesDoubt_64 rfl ?_
            refine jr_iald (Po2 t) (hw2.k rfl) rfl ⟨by omega, by decide⟩ dX7_splitLeavesDoubt_66 ?_
            rw [k8a]
            refine jr_iload dX7_splitLeavesDoubt_67 rfl ?_
            refine jr_bipush (60) dX7_splitLeavesDoubt_69 (by decide) ?_
            refine jr_idiv dX7_splitLeavesDoubt_71 (by decide) ?_
            rw [e60]
            refine jr_icmp_eq 79 dX7_splitLeavesDoubt_72 (by decide) (fun c_72 => absurd c_72 (fun e => hdiff (nI_inj (by omega) (by omega) e))) (fun c_72 => ?_)
            refine jr_iconst (1) dX7_splitLeavesDoubt_75 (by decide) ?_
            refine jr_goto 80 dX7_splitLeavesDoubt_76 (by decide) ?_
            refine jr_istore_3 dX7_splitLeavesDoubt_80 (by decide) rfl ?_
            refine jr_aload_n dX7_splitLeavesDoubt_81 rfl ?_
            refine gfX7_9 38 dX7_splitLeavesDoubt_82 (hw2.k rfl) (hw2.f rfl) ?_
            refine jr_iload dX7_splitLeavesDoubt_85 rfl ?_
            refine jr_iload dX7_splitLeavesDoubt_87 rfl ?_
            refine jr_iast t (hw2.k rfl) rfl ⟨ht7, by decide⟩ dX7_splitLeavesDoubt_89 ?_
            refine jr_iinc_4 (nI (t + 1)) dX7_splitLeavesDoubt_90 (inc1 t) (by decide) rfl ?_
            refine jr_goto 18 dX7_splitLeavesDoubt_93 (by decide) ?_
            exact h9
        · subst ed
          have h9 := hgo 1 (Or.inr ⟨rfl, u0, v1, by omega, by omega, by rw [(k4 u0 hu0).1, (k4 v1 hv1).1]; exact hp0, hh0⟩)
          refine jr_istore_5 dX7_splitLeavesDoubt_54 (by decide) rfl ?_
          refine jr_iload_n dX7_splitLeavesDoubt_56 rfl ?_
          refine jr_if_ne 75 dX7_splitLeavesDoubt_57 (by decide) (fun c_57 => ?_) (fun c_57 => absurd c_57 (by decide))
          refine jr_iconst (1) dX7_splitLeavesDoubt_75 (by decide) ?_
          refine jr_goto 80 dX7_splitLeavesDoubt_76 (by decide) ?_
          refine jr_istore_3 dX7_splitLeavesDoubt_80 (by decide) rfl ?_
          refine jr_aload_n dX7_splitLeavesDoubt_81 rfl ?_
          refine gfX7_9 38 dX7_splitLeavesDoubt_82 (hw2.k rfl) (hw2.f rfl) ?_
          refine jr_iload dX7_splitLeavesDoubt_85 rfl ?_
          refine jr_iload dX7_splitLeavesDoubt_87 rfl ?_
          refine jr_iast t (hw2.k rfl) rfl ⟨ht7, by decide⟩ dX7_splitLeavesDoubt_89 ?_
          refine jr_iinc_4 (nI (t + 1)) dX7_splitLeavesDoubt_90 (inc1 t) (by decide) rfl ?_
          refine jr_goto 18 dX7_splitLeavesDoubt_93 (by decide) ?_
          exact h9
      have hbl : ∀ p, p ∈ CL (Go t) → p < c := by
        intro p hp
        obtain ⟨u, hu, e, -⟩ := (j4 p).mp hp
        rw [← e]
        exact (i3 u hu).1
      have hPart := c_partOf g w1 hw1 (Go t) c hgt (by omega) i2 (CL (Go t)) j1 j2 (fun p hp => by have := hbl p hp; omega) (by omega) (nI (A t)) (nI (t / 60))
      refine jr_iload dX7_splitLeavesDoubt_18 rfl ?_
      refine jr_sipush (720) dX7_splitLeavesDoubt_20 (by decide) ?_
      refine jr_icmp_ge 96 dX7_splitLeavesDoubt_23 (by decide) (fun c_23 => absurd c_23 (by rw [jlit 720]; exact nI_ge (by omega) (by decide))) (fun c_23 => ?_)
      refine jr_aload_n dX7_splitLeavesDoubt_26 rfl ?_
      refine jr_aload_n dX7_splitLeavesDoubt_27 rfl ?_
      refine gfX7_9 38 dX7_splitLeavesDoubt_28 (hw1.k rfl) (hw1.f rfl) ?_
      refine jr_iload dX7_splitLeavesDoubt_31 rfl ?_
      refine jr_iald t (hw1.k rfl) rfl ⟨ht7, by decide⟩ dX7_splitLeavesDoubt_33 ?_
      rw [i4 t (Nat.le_refl _) ht7]
      refine jr_aload_n dX7_splitLeavesDoubt_34 rfl ?_
      refine jr_iload dX7_splitLeavesDoubt_35 rfl ?_
      refine jr_iload_n dX7_splitLeavesDoubt_37 rfl ?_
      refine jr_isub dX7_splitLeavesDoubt_38 ?_
      refine jr_sipush (720) dX7_splitLeavesDoubt_39 (by decide) ?_
      refine jc_Si (c_fmod g _ _ (t + 720 - ah) hfm) lkX7_42 rfl rfl (Nat.le_of_ble_eq_true rfl) (Nat.le_of_ble_eq_true rfl) dX7_splitLeavesDoubt_42 (fun r_42 w_42 h_42 => ?_)
      obtain ⟨rfl, rfl⟩ := h_42
      refine jr_iald ((t + 720 - ah) % 720) (hw1.k rfl) rfl ⟨hlt, by decide⟩ dX7_splitLeavesDoubt_45 ?_
      rw [hT1, hT _ hlt, eA2]
      refine jr_iload dX7_splitLeavesDoubt_46 rfl ?_
      refine jr_bipush (60) dX7_splitLeavesDoubt_48 (by decide) ?_
      refine jr_idiv dX7_splitLeavesDoubt_50 (by decide) ?_
      rw [e60]
      refine jc_Vi (hPart) lkX7_48 (hw1.k rfl) rfl rfl (Nat.le_of_ble_eq_true rfl) (Nat.le_of_ble_eq_true rfl) dX7_splitLeavesDoubt_51 (fun r_51 w_51 h_51 => ?_)
      rcases h_51 with ⟨p, hp, hpt, er, ew⟩ | ⟨hno, er, ew⟩
      · subst ew
        subst er
        obtain ⟨u0, hu0, eu0, eg0⟩ := (j4 p).mp hp
        have ea0 : A u0 = A t := by
          have z := (i3 u0 hu0).2.1
          rw [eu0, hpt] at z
          have := hA96 u0
          have := hA96 t
          exact (nI_inj (by omega) (by omega) z).symm
        have hpc := hbl p hp
        obtain ⟨Po2, eP⟩ : ∃ Po2 : Nat → Nat, Po2 = fun u => if u = t then p else Po u := ⟨_, rfl⟩
        have ePt : Po2 t = p := by rw [eP]; exact if_pos rfl
        have ePu : ∀ u, u < t → Po2 u = Po u := fun u hu => by rw [eP]; exact if_neg (by omega)
        obtain ⟨z7, v7, hv7, ev7, eh7⟩ := i7 p hpc
        have h9 := K54 w_51 Po2 Hp c CL hS (by omega) i2 (by rw [ePt]; exact hpc) (by rw [ePt]; exact hpt) (fun u hu => by rw [ePu u hu]; exact ⟨rfl, i3 u hu⟩) i4
          (fun q hq => by
            obtain ⟨y1, y2, y3, y4⟩ := i5 q hq
            refine ⟨y1, y2, y3, fun x => ⟨fun hx => ?_, fun hx => ?_⟩⟩
            · obtain ⟨u, hu, e1, e2⟩ := (y4 x).mp hx
              exact ⟨u, by omega, by rw [ePu u hu]; exact e1, e2⟩
            · obtain ⟨u, hu, e1, e2⟩ := hx
              by_cases eu : u = t
              · subst eu
                rw [ePt] at e1
                subst e1
                subst e2
                exact hp
              · exact (y4 x).mpr ⟨u, by omega, by rw [← ePu u (by omega)]; exact e1, e2⟩)
          (fun u v hu hv => by
            by_cases eu : u = t
            · by_cases ev : v = t
              · subst eu; subst ev; exact ⟨fun _ => ⟨rfl, rfl⟩, fun _ => rfl⟩
              · subst eu
                rw [ePt, ePu v (by omega), ← eu0, ← eg0, ← ea0]
                exact i6 u0 v hu0 (by omega)
            · by_cases ev : v = t
              · subst ev
                rw [ePt, ePu u (by omega), ← eu0, ← eg0, ← ea0]
                exact i6 u u0 (by omega) hu0
              · rw [ePu u (by omega), ePu v (by omega)]
                exact i6 u v (by omega) (by omega))
          (fun x hx => by
            obtain ⟨y1, v, hv, e1, e2⟩ := i7 x hx
            exact ⟨y1, v, by omega, by rw [ePu v hv]; exact e1, e2⟩)
          (fun u hu e => ⟨v7, hv7, by rw [ePu v7 hv7, ePt]; exact ev7, by rw [ePt]; exact eh7⟩)
        rw [ePt] at h9
        exact h9
      · subst er
        obtain ⟨Po2, eP⟩ : ∃ Po2 : Nat → Nat, Po2 = fun u => if u = t then c else Po u := ⟨_, rfl⟩
        have ePt : Po2 t = c := by rw [eP]; exact if_pos rfl
        have ePu : ∀ u, u < t → Po2 u = Po u := fun u hu => by rw [eP]; exact if_neg (by omega)
        obtain ⟨Hp2, eH⟩ : ∃ Hp2 : Nat → Nat, Hp2 = fun p => if p = c then t / 60 else Hp p := ⟨_, rfl⟩
        have eHc : Hp2 c = t / 60 := by rw [eH]; exact if_pos rfl
        have eHu : ∀ p, p < c → Hp2 p = Hp p := fun p hp => by rw [eH]; exact if_neg (by omega)
        obtain ⟨CL2, eC⟩ : ∃ CL2 : Nat → List Nat, CL2 = fun q => if q = Go t then c :: CL q else CL q := ⟨_, rfl⟩
        have eCt : CL2 (Go t) = c :: CL (Go t) := by rw [eC]; exact if_pos rfl
        have eCu : ∀ q, q ≠ Go t → CL2 q = CL q := fun q hq => by rw [eC]; exact if_neg hq
        have r41 : wI w_51 41 = upd (wI w1 41) c (nI (A t)) := by rw [ew, wI_sR_n _ (by decide), wI_sR_n _ (by decide), wI_sR_n _ (by decide), wI_sR_n _ (by decide), wI_sR_s]
        have r42 : wI w_51 42 = upd (wI w1 42) c (nI (t / 60)) := by rw [ew, wI_sR_n _ (by decide), wI_sR_n _ (by decide), wI_sR_n _ (by decide), wI_sR_s]
        have r40 : wI w_51 40 = upd (wI w1 40) c (wI w1 39 (Go t)) := by rw [ew, wI_sR_n _ (by decide), wI_sR_n _ (by decide), wI_sR_s]
        have r39 : wI w_51 39 = upd (wI w1 39) (Go t) (nI c) := by rw [ew, wI_sR_n _ (by decide), wI_sR_s]
        have r38 : wI w_51 38 = wI w1 38 := by rw [ew, wI_sR_n _ (by decide), wI_sR_n _ (by decide), wI_sR_n _ (by decide), wI_sR_n _ (by decide), wI_sR_n _ (by decide)]
        have r37 : wI w_51 37 5 = nI (c + 1) := by rw [ew, wI_sR_s, pk_us]
        have hS3 : Sm scV w w_51 := by
          rw [ew]
          exact ((((hS.tr (Sm.sR (by unfold scV; omega))).tr (Sm.sR (by unfold scV; omega))).tr (Sm.sR (by unfold scV; omega))).tr (Sm.sR (by unfold scV; omega))).tr (Sm.sR (by unfold scV; omega))
        have hnew : ∀ v, v < t → ¬ (Go t = Go v ∧ A t = A v) := by
          intro v hv e
          exact hno (Po v) ((j4 _).mpr ⟨v, hv, rfl, e.1.symm⟩) (by rw [(i3 v hv).2.1, e.2])
        have h9 := K54 w_51 Po2 Hp2 (c + 1) CL2 hS3 (by omega) r37 (by rw [ePt]; omega) (by rw [ePt, r41, pk_us])
          (fun u hu => by
            obtain ⟨y1, y2, y3⟩ := i3 u hu
            rw [ePu u hu, r41, r38, pk_un (by omega)]
            exact ⟨rfl, by omega, y2, y3⟩)
          (by rw [r38]; exact i4)
          (fun q hq => by
            obtain ⟨y1, y2, y3, y4⟩ := i5 q hq
            have hpc : ∀ p, p ∈ CL q → p < c := fun p hp => by
              obtain ⟨u, hu, e, -⟩ := (y4 p).mp hp
              rw [← e]
              exact (i3 u hu).1
            have y2b : Lk (wI w_51 40) (CL q) := y2.keep (fun p hp => by rw [r40, pk_un (by have := hpc p hp; omega)])
            by_cases eq : q = Go t
            · subst eq
              rw [eCt, r39, pk_us]
              refine ⟨rfl, ⟨by rw [r40, pk_us]; exact y1, y2b⟩, by rw [List.length_cons]; omega, fun x => ⟨fun hx => ?_, fun hx => ?_⟩⟩
              · rcases List.mem_cons.mp hx with e | e
                · exact ⟨t, by omega, by rw [ePt, e], rfl⟩
                · obtain ⟨u, hu, e1, e2⟩ := (y4 x).mp e
                  exact ⟨u, by omega, by rw [ePu u hu]; exact e1, e2⟩
              · obtain ⟨u, hu, e1, e2⟩ := hx
                by_cases eu : u = t
                · subst eu
                  rw [ePt] at e1
                  rw [e1]
                  exact List.mem_cons_self
                · exact List.mem_cons_of_mem _ ((y4 x).mpr ⟨u, by omega, by rw [← ePu u (by omega)]; exact e1, e2⟩)
            · rw [eCu q eq, r39, pk_un eq]
              refine ⟨y1, y2b, by omega, fun x => ⟨fun hx => ?_, fun hx => ?_⟩⟩
              · obtain ⟨u, hu, e1, e2⟩ := (y4 x).mp hx
                exact ⟨u, by omega, by rw [ePu u hu]; exact e1, e2⟩
              · obtain ⟨u, hu, e1, e2⟩ := hx
                by_cases eu : u = t
                · subst eu
                  exact absurd e2.symm eq
                · exact (y4 x).mpr ⟨u, by omega, by rw [← ePu u (by omega)]; exact e1, e2⟩)
          (fun u v hu hv => by
            by_cases eu : u = t
            · by_cases ev : v = t
              · subst eu; subst ev; exact ⟨fun _ => ⟨rfl, rfl⟩, fun _ => rfl⟩
              · subst eu
                rw [ePt, ePu v (by omega)]
                exact ⟨fun e => by have := (i3 v (by omega)).1; omega, fun e => absurd e (hnew v (by omega))⟩
            · by_cases ev : v = t
              · subst ev
                rw [ePt, ePu u (by omega)]
                exact ⟨fun e => by have := (i3 u (by omega)).1; omega, fun e => absurd ⟨e.1.symm, e.2.symm⟩ (hnew u (by omega))⟩
              · rw [ePu u (by omega), ePu v (by omega)]
                exact i6 u v (by omega) (by omega))
          (fun x hx => by
            by_cases ex : x = c
            · subst ex
              rw [r42, pk_us, eHc]
              exact ⟨rfl, t, by omega, ePt, rfl⟩
            · obtain ⟨y1, v, hv, e1, e2⟩ := i7 x (by omega)
              rw [r42, pk_un ex, eHu x (by omega)]
              exact ⟨y1, v, by omega, by rw [ePu v hv]; exact e1, e2⟩)
          (fun u hu e => by
            rw [ePu u hu, ePt] at e
            have := (i3 u hu).1
            omega)
        rw [ePt] at h9
        exact h9
  refine jr_aload_n dX7_splitLeavesDoubt_0 rfl ?_
  refine gfX7_15 39 dX7_splitLeavesDoubt_1 (hw.k rfl) (hw.f rfl) ?_
  refine jr_iconst (-1) dX7_splitLeavesDoubt_4 (by decide) ?_
  refine jc_Sv (c_fill g _ 39 720 (hw.k rfl) (by decide) _) lkX7_31 rfl rfl (Nat.le_of_ble_eq_true rfl) (Nat.le_of_ble_eq_true rfl) dX7_splitLeavesDoubt_5 (fun w_5 h_5 => ?_)
  obtain rfl := h_5
  refine jr_aload_n dX7_splitLeavesDoubt_8 rfl ?_
  refine jr_iconst (0) dX7_splitLeavesDoubt_9 (by decide) ?_
  refine pfX7_27 dX7_splitLeavesDoubt_10 (hw.k rfl) ?_
  refine jr_iconst (0) dX7_splitLeavesDoubt_13 (by decide) ?_
  refine jr_istore_3 dX7_splitLeavesDoubt_14 (by decide) rfl ?_
  refine jr_iconst (0) dX7_splitLeavesDoubt_15 (by decide) ?_
  refine jr_istore_4 dX7_splitLeavesDoubt_16 (by decide) rfl ?_
  refine L 720 0 _ (fun _ => 0) (fun _ => 0) 0 (fun _ => []) 0 _ rfl ((Sm.sR (by unfold scV; omega)).tr (Sm.sR (by unfold scV; omega))) ⟨by omega, by rw [wI_sR_s, pk_us]; rfl, fun u hu => absurd hu (by omega), fun u h1 h2 => ?_, fun q hq => ⟨?_, trivial, by simp, fun p => ⟨fun hp => absurd hp (by simp), fun hp => ?_⟩⟩, fun u v hu => absurd hu (by omega), fun p hp => absurd hp (by omega)⟩ (Or.inl ⟨rfl, fun u v hu => absurd hu (by omega)⟩)
  · rw [wI_sR_n _ (by decide), wI_sR_n _ (by decide)]
    exact (hGo u h2).2
  · rw [wI_sR_n _ (by decide), wI_sR_s, filR, if_pos hq]
    rfl
  · obtain ⟨u, hu, -⟩ := hp
    omega
theorem c_shortest (g : Cx) (w : Wd) (hw : Wf w) (T : Nat → Nat) (hT : AllR (wI w 35) T) (hT96 : ∀ t, T t ≤ 96) : CI g yX7_shortest cX7_shortest 3 (some .int) 4 0 0 [.ref (gb g + 37), .ref (gb g + 35)] w (fun r w' => r = (if tlA T 360 < 60 then nI (tlA T 360 + 1) else -1000000005) ∧ Sm scV w w') := by
  refine CI.of (own := RX7) (nm := "shortest") (lv := [some (.ref (gb g + 37)), some (.ref (gb g + 35)), none]) (by decide) rfl rfl (Nat.le_of_ble_eq_true rfl) rfl (fun Q hQ => ?_)
  have L : ∀ (f n : Nat) (w1 : Wd) (Go : Nat → Nat), f + n = 60 → Sm scV w w1 → (∀ u, u < 720 → Go u < 720 ∧ wI w1 38 u = nI (Go u)) → (∀ u v, u < 720 → v < 720 → (Go u = Go v ↔ wnE T n u v)) → n ≤ tlA T 360 → RR g RX7 cX7_shortest 3 (some .int) "shortest" 4 0 0 0 0 10 [some (.ref (gb g + 37)), some (.ref (gb g + 35)), some (.int (nI (n + 1)))] [] w1 Q := by
    intro f
    induction f with
    | zero =>
      intro n w1 Go hf hS hGo hE hn
      have e : n = 60 := by omega
      subst e
      refine jr_iload_n dX7_shortest_10 rfl ?_
      refine jr_bipush (60) dX7_shortest_11 (by decide) ?_
      refine jr_icmp_gt 35 dX7_shortest_13 (by decide) (fun c_13 => ?_) (fun c_13 => absurd (by decide) c_13)
      refine jr_ldc (-1000000005) ckX7_41 dX7_shortest_35 ?_
      refine jr_iret rfl dX7_shortest_37 ?_
      exact hQ _ _ ⟨by rw [if_neg (by omega)], hS⟩
    | succ f ih =>
      intro n w1 Go hf hS hGo hE hn
      have hw1 := hS.wf hw
      have hT1 : AllR (wI w1 35) T := by rw [hS.row (by unfold scV; omega)]; exact hT
      have hE2 : ∀ Po : Nat → Nat, (∀ u v, u < 720 → v < 720 → (Po u = Po v ↔ (Go u = Go v ∧ T ((u + 720 - n) % 720) = T ((v + 720 - n) % 720)))) → ∀ u v, u < 720 → v < 720 → (Po u = Po v ↔ wnE T (n + 1) u v) := by
        intro Po hP u v hu hv
        rw [hP u v hu hv, hE u v hu hv]
        constructor
        · intro h e he
          by_cases ee : e = n
          · rw [ee]; exact h.2
          · exact h.1 e (by omega)
        · intro h
          exact ⟨fun e he => h e (by omega), h n (by omega)⟩
      have hd := dbt_iff T (n := n + 1) (by omega) (by omega)
      have hSp := c_split g w1 hw1 T hT1 hT96 Go hGo n (by omega)
      refine jr_iload_n dX7_shortest_10 rfl ?_
      refine jr_bipush (60) dX7_shortest_11 (by decide) ?_
      refine jr_icmp_gt 35 dX7_shortest_13 (by decide) (fun c_13 => absurd c_13 (by rw [jlit 60]; exact nI_nlt (by omega) (by decide))) (fun c_13 => ?_)
      refine jr_aload_n dX7_shortest_16 rfl ?_
      refine jr_aload_n dX7_shortest_17 rfl ?_
      refine jr_iload_n dX7_shortest_18 rfl ?_
      refine jr_iconst (1) dX7_shortest_19 (by decide) ?_
      refine jr_isub dX7_shortest_20 ?_
      rw [nI_pred]
      refine jc_Vi (hSp) lkX7_37 (hw1.k rfl) rfl rfl (Nat.le_of_ble_eq_true rfl) (Nat.le_of_ble_eq_true rfl) dX7_shortest_21 (fun r_21 w_21 h_21 => ?_)
      obtain ⟨hS2, Po, hPo, hPE, hr⟩ := h_21
      have hPE2 := hE2 Po hPE
      rcases hr with ⟨er, hr⟩ | ⟨er, u0, v0, hu0, hv0, hp0, hh0⟩
      · subst er
        refine jr_if_ne 29 dX7_shortest_24 (by decide) (fun c => absurd rfl c) (fun _ => ?_)
        refine jr_iload_n dX7_shortest_27 rfl ?_
        refine jr_iret rfl dX7_shortest_28 ?_
        have hnd : ¬ n + 1 ≤ tlA T 360 := by
          intro h
          obtain ⟨u, v, hu, hv, hh, hw9⟩ := hd.mpr h
          exact hh (hr u v hu hv ((hPE2 u v hu hv).mpr hw9))
        exact hQ _ _ ⟨by rw [if_pos (by omega), show tlA T 360 = n by omega], hS.tr hS2⟩
      · subst er
        refine jr_if_ne 29 dX7_shortest_24 (by decide) (fun _ => ?_) (fun c => absurd c (by decide))
        refine jr_iinc_2 (nI (n + 1 + 1)) dX7_shortest_29 (inc1 _) (by decide) rfl ?_
        refine jr_goto 10 dX7_shortest_32 (by decide) ?_
        exact ih (n + 1) _ Po (by omega) (hS.tr hS2) hPo hPE2 (hd.mp ⟨u0, v0, hu0, hv0, hh0, (hPE2 u0 v0 hu0 hv0).mp hp0⟩)
  refine jr_aload_n dX7_shortest_0 rfl ?_
  refine gfX7_9 38 dX7_shortest_1 (hw.k rfl) (hw.f rfl) ?_
  refine jr_iconst (0) dX7_shortest_4 (by decide) ?_
  refine jc_Sv (c_fill g _ 38 720 (hw.k rfl) (by decide) _) lkX7_31 rfl rfl (Nat.le_of_ble_eq_true rfl) (Nat.le_of_ble_eq_true rfl) dX7_shortest_5 (fun w_5 h_5 => ?_)
  obtain rfl := h_5
  refine jr_iconst (1) dX7_shortest_8 (by decide) ?_
  refine jr_istore_2 dX7_shortest_9 (by decide) rfl ?_
  exact L 60 0 _ (fun _ => 0) rfl (Sm.sR (by unfold scV; omega)) (fun u hu => ⟨by decide, by rw [wI_sR_s, filR, if_pos hu]; rfl⟩) (fun u v hu hv => ⟨fun _ e he => absurd he (by omega), fun _ => rfl⟩) (Nat.zero_le _)
