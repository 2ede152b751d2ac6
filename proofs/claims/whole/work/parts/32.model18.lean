-- the reference: the words of the reader
abbrev wdAP (tk : Int32) (bg bh : Nat) (T : Nat → Int32) (a b c d : Int32) : Prop := tk = 1 ∧ bh - bg = (if d = 0 then 3 else 4) ∧ T bg = a ∧ T (bg + 1) = b ∧ T (bg + 2) = c ∧ (d = 0 ∨ T (bg + 3) = d)
theorem c_isWordAt (g : Cx) (w : Wd) (hw : Wf w) (T : Nat → Int32) (hT : wI w 92 = T) (bg bh : Nat) (hb : bg ≤ bh) (hh : bh ≤ 96) (h16 : wI w 78 16 = nI bg) (h17 : wI w 78 17 = nI bh) (a b c d : Int32) : CI g yX9_isWordAt cX9_isWordAt 6 (some .boolean) 1 0 0 [.ref (gb g + 78), .int a, .int b, .int c, .int d] w (fun r w' => r = jb (wdAP (wI w 78 18) bg bh T a b c d) ∧ w = w') := by
  have es : (nI (bh - bg)).toInt = ((bh - bg : Nat) : Int) := i_nI (by omega)
  refine CI.of (own := RX9) (nm := "isWordAt") (lv := [some (.ref (gb g + 78)), some (.int a), some (.int b), some (.int c), some (.int d), none]) (by decide) rfl rfl (Nat.le_of_ble_eq_true rfl) rfl (fun Q hQ => ?_)
  by_cases hd : d = 0
  · have el : (3 : Int32).toInt = 3 := by decide
    have es2 : bh - bg = 3 → bh - bg = (if d = 0 then 3 else 4) := fun e => by rw [if_pos hd]; exact e
    have es3 : bh - bg = (if d = 0 then 3 else 4) → bh - bg = 3 := fun e => by rw [if_pos hd] at e; exact e
    have es4 : nI (bh - bg) = 3 → bh - bg = 3 := fun e => by rw [eq_i, es, el] at e; omega
    refine jr_iload dX9_isWordAt_0 rfl ?_
    refine jr_if_ne 9 dX9_isWordAt_2 (by decide) (fun c_2 => absurd hd c_2) (fun c_2 => ?_)
    refine jr_iconst (3) dX9_isWordAt_5 (by decide) ?_
    refine jr_goto 10 dX9_isWordAt_6 (by decide) ?_
    refine jr_istore_5 dX9_isWordAt_10 (by decide) rfl ?_
    refine jr_aload_n dX9_isWordAt_12 rfl ?_
    refine gfX9_206 dX9_isWordAt_13 (hw.k rfl) ?_
    refine jr_iconst (1) dX9_isWordAt_16 (by decide) ?_
    refine jr_icmp_ne 102 dX9_isWordAt_17 (by decide) (fun c_17 => ?_) (fun c_17 => ?_)
    · refine jr_iconst (0) dX9_isWordAt_102 (by decide) ?_
      refine jr_zret rfl (by decide) dX9_isWordAt_103 ?_
      refine hQ _ _ ⟨?_, rfl⟩
      first | exact jb_t' ⟨c_17, es2 hl, c_44, c_59, c_74, Or.inl hd⟩ | exact jb_f' (fun e => c_17 e.1) | exact jb_f' (fun e => c_31 (by rw [es3 e.2.1]; rfl)) | exact jb_f' (fun e => c_44 e.2.2.1) | exact jb_f' (fun e => c_59 e.2.2.2.1) | exact jb_f' (fun e => c_74 e.2.2.2.2.1)
    · refine jr_aload_n dX9_isWordAt_20 rfl ?_
      refine gfX9_203 dX9_isWordAt_21 (hw.k rfl) ?_
      rw [h17]
      refine jr_aload_n dX9_isWordAt_24 rfl ?_
      refine gfX9_209 dX9_isWordAt_25 (hw.k rfl) ?_
      rw [h16]
      refine jr_isub dX9_isWordAt_28 ?_
      rw [pk_sub hb]
      refine jr_iload dX9_isWordAt_29 rfl ?_
      refine jr_icmp_ne 102 dX9_isWordAt_31 (by decide) (fun c_31 => ?_) (fun c_31 => ?_)
      · refine jr_iconst (0) dX9_isWordAt_102 (by decide) ?_
        refine jr_zret rfl (by decide) dX9_isWordAt_103 ?_
        refine hQ _ _ ⟨?_, rfl⟩
        first | exact jb_t' ⟨c_17, es2 hl, c_44, c_59, c_74, Or.inl hd⟩ | exact jb_f' (fun e => c_17 e.1) | exact jb_f' (fun e => c_31 (by rw [es3 e.2.1]; rfl)) | exact jb_f' (fun e => c_44 e.2.2.1) | exact jb_f' (fun e => c_59 e.2.2.2.1) | exact jb_f' (fun e => c_74 e.2.2.2.2.1)
      · have hl := es4 c_31
        refine jr_aload_n dX9_isWordAt_34 rfl ?_
        refine gfX9_49 92 dX9_isWordAt_35 (hw.k rfl) (hw.f rfl) ?_
        refine jr_aload_n dX9_isWordAt_38 rfl ?_
        refine gfX9_209 dX9_isWordAt_39 (hw.k rfl) ?_
        rw [h16]
        refine jr_iald bg (hw.k rfl) rfl ⟨by omega, by decide⟩ dX9_isWordAt_42 ?_
        rw [hT]
        refine jr_iload_n dX9_isWordAt_43 rfl ?_
        refine jr_icmp_ne 102 dX9_isWordAt_44 (by decide) (fun c_44 => ?_) (fun c_44 => ?_)
        · refine jr_iconst (0) dX9_isWordAt_102 (by decide) ?_
          refine jr_zret rfl (by decide) dX9_isWordAt_103 ?_
          refine hQ _ _ ⟨?_, rfl⟩
          first | exact jb_t' ⟨c_17, es2 hl, c_44, c_59, c_74, Or.inl hd⟩ | exact jb_f' (fun e => c_17 e.1) | exact jb_f' (fun e => c_31 (by rw [es3 e.2.1]; rfl)) | exact jb_f' (fun e => c_44 e.2.2.1) | exact jb_f' (fun e => c_59 e.2.2.2.1) | exact jb_f' (fun e => c_74 e.2.2.2.2.1)
        · refine jr_aload_n dX9_isWordAt_47 rfl ?_
          refine gfX9_49 92 dX9_isWordAt_48 (hw.k rfl) (hw.f rfl) ?_
          refine jr_aload_n dX9_isWordAt_51 rfl ?_
          refine gfX9_209 dX9_isWordAt_52 (hw.k rfl) ?_
          rw [h16]
          refine jr_iconst (1) dX9_isWordAt_55 (by decide) ?_
          refine jr_iadd dX9_isWordAt_56 ?_
          refine jr_iald (bg + 1) (hw.k rfl) (by rw [jlit 1, nI_add]) ⟨by omega, by decide⟩ dX9_isWordAt_57 ?_
          rw [hT]
          refine jr_iload_n dX9_isWordAt_58 rfl ?_
          refine jr_icmp_ne 102 dX9_isWordAt_59 (by decide) (fun c_59 => ?_) (fun c_59 => ?_)
          · refine jr_iconst (0) dX9_isWordAt_102 (by decide) ?_
            refine jr_zret rfl (by decide) dX9_isWordAt_103 ?_
            refine hQ _ _ ⟨?_, rfl⟩
            first | exact jb_t' ⟨c_17, es2 hl, c_44, c_59, c_74, Or.inl hd⟩ | exact jb_f' (fun e => c_17 e.1) | exact jb_f' (fun e => c_31 (by rw [es3 e.2.1]; rfl)) | exact jb_f' (fun e => c_44 e.2.2.1) | exact jb_f' (fun e => c_59 e.2.2.2.1) | exact jb_f' (fun e => c_74 e.2.2.2.2.1)
          · refine jr_aload_n dX9_isWordAt_62 rfl ?_
            refine gfX9_49 92 dX9_isWordAt_63 (hw.k rfl) (hw.f rfl) ?_
            refine jr_aload_n dX9_isWordAt_66 rfl ?_
            refine gfX9_209 dX9_isWordAt_67 (hw.k rfl) ?_
            rw [h16]
            refine jr_iconst (2) dX9_isWordAt_70 (by decide) ?_
            refine jr_iadd dX9_isWordAt_71 ?_
            refine jr_iald (bg + 2) (hw.k rfl) (by rw [jlit 2, nI_add]) ⟨by omega, by decide⟩ dX9_isWordAt_72 ?_
            rw [hT]
            refine jr_iload_n dX9_isWordAt_73 rfl ?_
            refine jr_icmp_ne 102 dX9_isWordAt_74 (by decide) (fun c_74 => ?_) (fun c_74 => ?_)
            · refine jr_iconst (0) dX9_isWordAt_102 (by decide) ?_
              refine jr_zret rfl (by decide) dX9_isWordAt_103 ?_
              refine hQ _ _ ⟨?_, rfl⟩
              first | exact jb_t' ⟨c_17, es2 hl, c_44, c_59, c_74, Or.inl hd⟩ | exact jb_f' (fun e => c_17 e.1) | exact jb_f' (fun e => c_31 (by rw [es3 e.2.1]; rfl)) | exact jb_f' (fun e => c_44 e.2.2.1) | exact jb_f' (fun e => c_59 e.2.2.2.1) | exact jb_f' (fun e => c_74 e.2.2.2.2.1)
            · refine jr_iload dX9_isWordAt_77 rfl ?_
              refine jr_if_eq 98 dX9_isWordAt_79 (by decide) (fun c_79 => ?_) (fun c_79 => absurd hd c_79)
              refine jr_iconst (1) dX9_isWordAt_98 (by decide) ?_
              refine jr_goto 103 dX9_isWordAt_99 (by decide) ?_
              refine jr_zret rfl (by decide) dX9_isWordAt_103 ?_
              refine hQ _ _ ⟨?_, rfl⟩
              first | exact jb_t' ⟨c_17, es2 hl, c_44, c_59, c_74, Or.inl hd⟩ | exact jb_f' (fun e => c_17 e.1) | exact jb_f' (fun e => c_31 (by rw [es3 e.2.1]; rfl)) | exact jb_f' (fun e => c_44 e.2.2.1) | exact jb_f' (fun e => c_59 e.2.2.2.1) | exact jb_f' (fun e => c_74 e.2.2.2.2.1)
  · have el : (4 : Int32).toInt = 4 := by decide
    have es2 : bh - bg = 4 → bh - bg = (if d = 0 then 3 else 4) := fun e => by rw [if_neg hd]; exact e
    have es3 : bh - bg = (if d = 0 then 3 else 4) → bh - bg = 4 := fun e => by rw [if_neg hd] at e; exact e
    have es4 : nI (bh - bg) = 4 → bh - bg = 4 := fun e => by rw [eq_i, es, el] at e; omega
    refine jr_iload dX9_isWordAt_0 rfl ?_
    refine jr_if_ne 9 dX9_isWordAt_2 (by decide) (fun c_2 => ?_) (fun c_2 => absurd c_2 hd)
    refine jr_iconst (4) dX9_isWordAt_9 (by decide) ?_
    refine jr_istore_5 dX9_isWordAt_10 (by decide) rfl ?_
    refine jr_aload_n dX9_isWordAt_12 rfl ?_
    refine gfX9_206 dX9_isWordAt_13 (hw.k rfl) ?_
    refine jr_iconst (1) dX9_isWordAt_16 (by decide) ?_
    refine jr_icmp_ne 102 dX9_isWordAt_17 (by decide) (fun c_17 => ?_) (fun c_17 => ?_)
    · refine jr_iconst (0) dX9_isWordAt_102 (by decide) ?_
      refine jr_zret rfl (by decide) dX9_isWordAt_103 ?_
      refine hQ _ _ ⟨?_, rfl⟩
      first | exact jb_t' ⟨c_17, es2 hl, c_44, c_59, c_74, Or.inr c_95⟩ | exact jb_f' (fun e => c_17 e.1) | exact jb_f' (fun e => c_31 (by rw [es3 e.2.1]; rfl)) | exact jb_f' (fun e => c_44 e.2.2.1) | exact jb_f' (fun e => c_59 e.2.2.2.1) | exact jb_f' (fun e => c_74 e.2.2.2.2.1) | exact jb_f' (fun e => (e.2.2.2.2.2).elim (fun h1 => hd h1) (fun h1 => c_95 h1))
    · refine jr_aload_n dX9_isWordAt_20 rfl ?_
      refine gfX9_203 dX9_isWordAt_21 (hw.k rfl) ?_
      rw [h17]
      refine jr_aload_n dX9_isWordAt_24 rfl ?_
      refine gfX9_209 dX9_isWordAt_25 (hw.k rfl) ?_
      rw [h16]
      refine jr_isub dX9_isWordAt_28 ?_
      rw [pk_sub hb]
      refine jr_iload dX9_isWordAt_29 rfl ?_
      refine jr_icmp_ne 102 dX9_isWordAt_31 (by decide) (fun c_31 => ?_) (fun c_31 => ?_)
      · refine jr_iconst (0) dX9_isWordAt_102 (by decide) ?_
        refine jr_zret rfl (by decide) dX9_isWordAt_103 ?_
        refine hQ _ _ ⟨?_, rfl⟩
        first | exact jb_t' ⟨c_17, es2 hl, c_44, c_59, c_74, Or.inr c_95⟩ | exact jb_f' (fun e => c_17 e.1) | exact jb_f' (fun e => c_31 (by rw [es3 e.2.1]; rfl)) | exact jb_f' (fun e => c_44 e.2.2.1) | exact jb_f' (fun e => c_59 e.2.2.2.1) | exact jb_f' (fun e => c_74 e.2.2.2.2.1) | exact jb_f' (fun e => (e.2.2.2.2.2).elim (fun h1 => hd h1) (fun h1 => c_95 h1))
      · have hl := es4 c_31
        refine jr_aload_n dX9_isWordAt_34 rfl ?_
        refine gfX9_49 92 dX9_isWordAt_35 (hw.k rfl) (hw.f rfl) ?_
        refine jr_aload_n dX9_isWordAt_38 rfl ?_
        refine gfX9_209 dX9_isWordAt_39 (hw.k rfl) ?_
        rw [h16]
        refine jr_iald bg (hw.k rfl) rfl ⟨by omega, by decide⟩ dX9_isWordAt_42 ?_
        rw [hT]
        refine jr_iload_n dX9_isWordAt_43 rfl ?_
        refine jr_icmp_ne 102 dX9_isWordAt_44 (by decide) (fun c_44 => ?_) (fun c_44 => ?_)
        · refine jr_iconst (0) dX9_isWordAt_102 (by decide) ?_
          refine jr_zret rfl (by decide) dX9_isWordAt_103 ?_
          refine hQ _ _ ⟨?_, rfl⟩
          first | exact jb_t' ⟨c_17, es2 hl, c_44, c_59, c_74, Or.inr c_95⟩ | exact jb_f' (fun e => c_17 e.1) | exact jb_f' (fun e => c_31 (by rw [es3 e.2.1]; rfl)) | exact jb_f' (fun e => c_44 e.2.2.1) | exact jb_f' (fun e => c_59 e.2.2.2.1) | exact jb_f' (fun e => c_74 e.2.2.2.2.1) | exact jb_f' (fun e => (e.2.2.2.2.2).elim (fun h1 => hd h1) (fun h1 => c_95 h1))
        · refine jr_aload_n dX9_isWordAt_47 rfl ?_
          refine gfX9_49 92 dX9_isWordAt_48 (hw.k rfl) (hw.f rfl) ?_
          refine jr_aload_n dX9_isWordAt_51 rfl ?_
          refine gfX9_209 dX9_isWordAt_52 (hw.k rfl) ?_
          rw [h16]
          refine jr_iconst (1) dX9_isWordAt_55 (by decide) ?_
          refine jr_iadd dX9_isWordAt_56 ?_
          refine jr_iald (bg + 1) (hw.k rfl) (by rw [jlit 1, nI_add]) ⟨by omega, by decide⟩ dX9_isWordAt_57 ?_
          rw [hT]
          refine jr_iload_n dX9_isWordAt_58 rfl ?_
          refine jr_icmp_ne 102 dX9_isWordAt_59 (by decide) (fun c_59 => ?_) (fun c_59 => ?_)
          · refine jr_iconst (0) dX9_isWordAt_102 (by decide) ?_
            refine jr_zret rfl (by decide) dX9_isWordAt_103 ?_
            refine hQ _ _ ⟨?_, rfl⟩
            first | exact jb_t' ⟨c_17, es2 hl, c_44, c_59, c_74, Or.inr c_95⟩ | exact jb_f' (fun e => c_17 e.1) | exact jb_f' (fun e => c_31 (by rw [es3 e.2.1]; rfl)) | exact jb_f' (fun e => c_44 e.2.2.1) | exact jb_f' (fun e => c_59 e.2.2.2.1) | exact jb_f' (fun e => c_74 e.2.2.2.2.1) | exact jb_f' (fun e => (e.2.2.2.2.2).elim (fun h1 => hd h1) (fun h1 => c_95 h1))
          · refine jr_aload_n dX9_isWordAt_62 rfl ?_
            refine gfX9_49 92 dX9_isWordAt_63 (hw.k rfl) (hw.f rfl) ?_
            refine jr_aload_n dX9_isWordAt_66 rfl ?_
            refine gfX9_209 dX9_isWordAt_67 (hw.k rfl) ?_
            rw [h16]
            refine jr_iconst (2) dX9_isWordAt_70 (by decide) ?_
            refine jr_iadd dX9_isWordAt_71 ?_
            refine jr_iald (bg + 2) (hw.k rfl) (by rw [jlit 2, nI_add]) ⟨by omega, by decide⟩ dX9_isWordAt_72 ?_
            rw [hT]
            refine jr_iload_n dX9_isWordAt_73 rfl ?_
            refine jr_icmp_ne 102 dX9_isWordAt_74 (by decide) (fun c_74 => ?_) (fun c_74 => ?_)
            · refine jr_iconst (0) dX9_isWordAt_102 (by decide) ?_
              refine jr_zret rfl (by decide) dX9_isWordAt_103 ?_
              refine hQ _ _ ⟨?_, rfl⟩
              first | exact jb_t' ⟨c_17, es2 hl, c_44, c_59, c_74, Or.inr c_95⟩ | exact jb_f' (fun e => c_17 e.1) | exact jb_f' (fun e => c_31 (by rw [es3 e.2.1]; rfl)) | exact jb_f' (fun e => c_44 e.2.2.1) | exact jb_f' (fun e => c_59 e.2.2.2.1) | exact jb_f' (fun e => c_74 e.2.2.2.2.1) | exact jb_f' (fun e => (e.2.2.2.2.2).elim (fun h1 => hd h1) (fun h1 => c_95 h1))
            · refine jr_iload dX9_isWordAt_77 rfl ?_
              refine jr_if_eq 98 dX9_isWordAt_79 (by decide) (fun c_79 => absurd c_79 hd) (fun c_79 => ?_)
              refine jr_aload_n dX9_isWordAt_82 rfl ?_
              refine gfX9_49 92 dX9_isWordAt_83 (hw.k rfl) (hw.f rfl) ?_
              refine jr_aload_n dX9_isWordAt_86 rfl ?_
              refine gfX9_209 dX9_isWordAt_87 (hw.k rfl) ?_
              rw [h16]
              refine jr_iconst (3) dX9_isWordAt_90 (by decide) ?_
              refine jr_iadd dX9_isWordAt_91 ?_
              refine jr_iald (bg + 3) (hw.k rfl) (by rw [jlit 3, nI_add]) ⟨by omega, by decide⟩ dX9_isWordAt_92 ?_
              rw [hT]
              refine jr_iload dX9_isWordAt_93 rfl ?_
              refine jr_icmp_ne 102 dX9_isWordAt_95 (by decide) (fun c_95 => ?_) (fun c_95 => ?_)
              · refine jr_iconst (0) dX9_isWordAt_102 (by decide) ?_
                refine jr_zret rfl (by decide) dX9_isWordAt_103 ?_
                refine hQ _ _ ⟨?_, rfl⟩
                first | exact jb_t' ⟨c_17, es2 hl, c_44, c_59, c_74, Or.inr c_95⟩ | exact jb_f' (fun e => c_17 e.1) | exact jb_f' (fun e => c_31 (by rw [es3 e.2.1]; rfl)) | exact jb_f' (fun e => c_44 e.2.2.1) | exact jb_f' (fun e => c_59 e.2.2.2.1) | exact jb_f' (fun e => c_74 e.2.2.2.2.1) | exact jb_f' (fun e => (e.2.2.2.2.2).elim (fun h1 => hd h1) (fun h1 => c_95 h1))
              · refine jr_iconst (1) dX9_isWordAt_98 (by decide) ?_
                refine jr_goto 103 dX9_isWordAt_99 (by decide) ?_
                refine jr_zret rfl (by decide) dX9_isWordAt_103 ?_
                refine hQ _ _ ⟨?_, rfl⟩
                first | exact jb_t' ⟨c_17, es2 hl, c_44, c_59, c_74, Or.inr c_95⟩ | exact jb_f' (fun e => c_17 e.1) | exact jb_f' (fun e => c_31 (by rw [es3 e.2.1]; rfl)) | exact jb_f' (fun e => c_44 e.2.2.1) | exact jb_f' (fun e => c_59 e.2.2.2.1) | exact jb_f' (fun e => c_74 e.2.2.2.2.1) | exact jb_f' (fun e => (e.2.2.2.2.2).elim (fun h1 => hd h1) (fun h1 => c_95 h1))
abbrev wdLP (tk : Int32) (bg bh : Nat) (T : Nat → Int32) (a b c d e1 f : Int32) : Prop := tk = 1 ∧ bh - bg = (if f = 0 then 5 else 6) ∧ T bg = a ∧ T (bg + 1) = b ∧ T (bg + 2) = c ∧ T (bg + 3) = d ∧ T (bg + 4) = e1 ∧ (f = 0 ∨ T (bg + 5) = f)
theorem c_isLong (g : Cx) (w : Wd) (hw : Wf w) (T : Nat → Int32) (hT : wI w 92 = T) (bg bh : Nat) (hb : bg ≤ bh) (hh : bh ≤ 96) (h16 : wI w 78 16 = nI bg) (h17 : wI w 78 17 = nI bh) (a b c d e1 f : Int32) : CI g yX9_isLong cX9_isLong 8 (some .boolean) 1 0 0 [.ref (gb g + 78), .int a, .int b, .int c, .int d, .int e1, .int f] w (fun r w' => r = jb (wdLP (wI w 78 18) bg bh T a b c d e1 f) ∧ w = w') := by
  have es : (nI (bh - bg)).toInt = ((bh - bg : Nat) : Int) := i_nI (by omega)
  refine CI.of (own := RX9) (nm := "isLong") (lv := [some (.ref (gb g + 78)), some (.int a), some (.int b), some (.int c), some (.int d), some (.int e1), some (.int f), none]) (by decide) rfl rfl (Nat.le_of_ble_eq_true rfl) rfl (fun Q hQ => ?_)
  by_cases hd : f = 0
  · have el : (5 : Int32).toInt = 5 := by decide
    have es2 : bh - bg = 5 → bh - bg = (if f = 0 then 5 else 6) := fun e => by rw [if_pos hd]; exact e
    have es3 : bh - bg = (if f = 0 then 5 else 6) → bh - bg = 5 := fun e => by rw [if_pos hd] at e; exact e
    have es4 : nI (bh - bg) = 5 → bh - bg = 5 := fun e => by rw [eq_i, es, el] at e; omega
    refine jr_iload dX9_isLong_0 rfl ?_
    refine jr_if_ne 9 dX9_isLong_2 (by decide) (fun c_2 => absurd hd c_2) (fun c_2 => ?_)
    refine jr_iconst (5) dX9_isLong_5 (by decide) ?_
    refine jr_goto 11 dX9_isLong_6 (by decide) ?_
    refine jr_istore_7 dX9_isLong_11 (by decide) rfl ?_
    refine jr_aload_n dX9_isLong_13 rfl ?_
    refine gfX9_206 dX9_isLong_14 (hw.k rfl) ?_
    refine jr_iconst (1) dX9_isLong_17 (by decide) ?_
    refine jr_icmp_ne 135 dX9_isLong_18 (by decide) (fun c_18 => ?_) (fun c_18 => ?_)
    · refine jr_iconst (0) dX9_isLong_135 (by decide) ?_
      refine jr_zret rfl (by decide) dX9_isLong_136 ?_
      refine hQ _ _ ⟨?_, rfl⟩
      first | exact jb_t' ⟨c_18, es2 hl, c_45, c_60, c_75, c_91, c_107, Or.inl hd⟩ | exact jb_f' (fun e => c_18 e.1) | exact jb_f' (fun e => c_32 (by rw [es3 e.2.1]; rfl)) | exact jb_f' (fun e => c_45 e.2.2.1) | exact jb_f' (fun e => c_60 e.2.2.2.1) | exact jb_f' (fun e => c_75 e.2.2.2.2.1) | exact jb_f' (fun e => c_91 e.2.2.2.2.2.1) | exact jb_f' (fun e => c_107 e.2.2.2.2.2.2.1)
    · refine jr_aload_n dX9_isLong_21 rfl ?_
      refine gfX9_203 dX9_isLong_22 (hw.k rfl) ?_
      rw [h17]
      refine jr_aload_n dX9_isLong_25 rfl ?_
      refine gfX9_209 dX9_isLong_26 (hw.k rfl) ?_
      rw [h16]
      refine jr_isub dX9_isLong_29 ?_
      rw [pk_sub hb]
      refine jr_iload dX9_isLong_30 rfl ?_
      refine jr_icmp_ne 135 dX9_isLong_32 (by decide) (fun c_32 => ?_) (fun c_32 => ?_)
      · refine jr_iconst (0) dX9_isLong_135 (by decide) ?_
        refine jr_zret rfl (by decide) dX9_isLong_136 ?_
        refine hQ _ _ ⟨?_, rfl⟩
        first | exact jb_t' ⟨c_18, es2 hl, c_45, c_60, c_75, c_91, c_107, Or.inl hd⟩ | exact jb_f' (fun e => c_18 e.1) | exact jb_f' (fun e => c_32 (by rw [es3 e.2.1]; rfl)) | exact jb_f' (fun e => c_45 e.2.2.1) | exact jb_f' (fun e => c_60 e.2.2.2.1) | exact jb_f' (fun e => c_75 e.2.2.2.2.1) | exact jb_f' (fun e => c_91 e.2.2.2.2.2.1) | exact jb_f' (fun e => c_107 e.2.2.2.2.2.2.1)
      · have hl := es4 c_32
        refine jr_aload_n dX9_isLong_35 rfl ?_
        refine gfX9_49 92 dX9_isLong_36 (hw.k rfl) (hw.f rfl) ?_
        refine jr_aload_n dX9_isLong_39 rfl ?_
        refine gfX9_209 dX9_isLong_40 (hw.k rfl) ?_
        rw [h16]
        refine jr_iald bg (hw.k rfl) rfl ⟨by omega, by decide⟩ dX9_isLong_43 ?_
        rw [hT]
        refine jr_iload_n dX9_isLong_44 rfl ?_
        refine jr_icmp_ne 135 dX9_isLong_45 (by decide) (fun c_45 => ?_) (fun c_45 => ?_)
        · refine jr_iconst (0) dX9_isLong_135 (by decide) ?_
          refine jr_zret rfl (by decide) dX9_isLong_136 ?_
          refine hQ _ _ ⟨?_, rfl⟩
          first | exact jb_t' ⟨c_18, es2 hl, c_45, c_60, c_75, c_91, c_107, Or.inl hd⟩ | exact jb_f' (fun e => c_18 e.1) | exact jb_f' (fun e => c_32 (by rw [es3 e.2.1]; rfl)) | exact jb_f' (fun e => c_45 e.2.2.1) | exact jb_f' (fun e => c_60 e.2.2.2.1) | exact jb_f' (fun e => c_75 e.2.2.2.2.1) | exact jb_f' (fun e => c_91 e.2.2.2.2.2.1) | exact jb_f' (fun e => c_107 e.2.2.2.2.2.2.1)
        · refine jr_aload_n dX9_isLong_48 rfl ?_
          refine gfX9_49 92 dX9_isLong_49 (hw.k rfl) (hw.f rfl) ?_
          refine jr_aload_n dX9_isLong_52 rfl ?_
          refine gfX9_209 dX9_isLong_53 (hw.k rfl) ?_
          rw [h16]
          refine jr_iconst (1) dX9_isLong_56 (by decide) ?_
          refine jr_iadd dX9_isLong_57 ?_
          refine jr_iald (bg + 1) (hw.k rfl) (by rw [jlit 1, nI_add]) ⟨by omega, by decide⟩ dX9_isLong_58 ?_
          rw [hT]
          refine jr_iload_n dX9_isLong_59 rfl ?_
          refine jr_icmp_ne 135 dX9_isLong_60 (by decide) (fun c_60 => ?_) (fun c_60 => ?_)
          · refine jr_iconst (0) dX9_isLong_135 (by decide) ?_
            refine jr_zret rfl (by decide) dX9_isLong_136 ?_
            refine hQ _ _ ⟨?_, rfl⟩
            first | exact jb_t' ⟨c_18, es2 hl, c_45, c_60, c_75, c_91, c_107, Or.inl hd⟩ | exact jb_f' (fun e => c_18 e.1) | exact jb_f' (fun e => c_32 (by rw [es3 e.2.1]; rfl)) | exact jb_f' (fun e => c_45 e.2.2.1) | exact jb_f' (fun e => c_60 e.2.2.2.1) | exact jb_f' (fun e => c_75 e.2.2.2.2.1) | exact jb_f' (fun e => c_91 e.2.2.2.2.2.1) | exact jb_f' (fun e => c_107 e.2.2.2.2.2.2.1)
          · refine jr_aload_n dX9_isLong_63 rfl ?_
            refine gfX9_49 92 dX9_isLong_64 (hw.k rfl) (hw.f rfl) ?_
            refine jr_aload_n dX9_isLong_67 rfl ?_
            refine gfX9_209 dX9_isLong_68 (hw.k rfl) ?_
            rw [h16]
            refine jr_iconst (2) dX9_isLong_71 (by decide) ?_
            refine jr_iadd dX9_isLong_72 ?_
            refine jr_iald (bg + 2) (hw.k rfl) (by rw [jlit 2, nI_add]) ⟨by omega, by decide⟩ dX9_isLong_73 ?_
            rw [hT]
            refine jr_iload_n dX9_isLong_74 rfl ?_
            refine jr_icmp_ne 135 dX9_isLong_75 (by decide) (fun c_75 => ?_) (fun c_75 => ?_)
            · refine jr_iconst (0) dX9_isLong_135 (by decide) ?_
              refine jr_zret rfl (by decide) dX9_isLong_136 ?_
              refine hQ _ _ ⟨?_, rfl⟩
              first | exact jb_t' ⟨c_18, es2 hl, c_45, c_60, c_75, c_91, c_107, Or.inl hd⟩ | exact jb_f' (fun e => c_18 e.1) | exact jb_f' (fun e => c_32 (by rw [es3 e.2.1]; rfl)) | exact jb_f' (fun e => c_45 e.2.2.1) | exact jb_f' (fun e => c_60 e.2.2.2.1) | exact jb_f' (fun e => c_75 e.2.2.2.2.1) | exact jb_f' (fun e => c_91 e.2.2.2.2.2.1) | exact jb_f' (fun e => c_107 e.2.2.2.2.2.2.1)
            · refine jr_aload_n dX9_isLong_78 rfl ?_
              refine gfX9_49 92 dX9_isLong_79 (hw.k rfl) (hw.f rfl) ?_
              refine jr_aload_n dX9_isLong_82 rfl ?_
              refine gfX9_209 dX9_isLong_83 (hw.k rfl) ?_
              rw [h16]
              refine jr_iconst (3) dX9_isLong_86 (by decide) ?_
              refine jr_iadd dX9_isLong_87 ?_
              refine jr_iald (bg + 3) (hw.k rfl) (by rw [jlit 3, nI_add]) ⟨by omega, by decide⟩ dX9_isLong_88 ?_
              rw [hT]
              refine jr_iload dX9_isLong_89 rfl ?_
              refine jr_icmp_ne 135 dX9_isLong_91 (by decide) (fun c_91 => ?_) (fun c_91 => ?_)
              · refine jr_iconst (0) dX9_isLong_135 (by decide) ?_
                refine jr_zret rfl (by decide) dX9_isLong_136 ?_
                refine hQ _ _ ⟨?_, rfl⟩
                first | exact jb_t' ⟨c_18, es2 hl, c_45, c_60, c_75, c_91, c_107, Or.inl hd⟩ | exact jb_f' (fun e => c_18 e.1) | exact jb_f' (fun e => c_32 (by rw [es3 e.2.1]; rfl)) | exact jb_f' (fun e => c_45 e.2.2.1) | exact jb_f' (fun e => c_60 e.2.2.2.1) | exact jb_f' (fun e => c_75 e.2.2.2.2.1) | exact jb_f' (fun e => c_91 e.2.2.2.2.2.1) | exact jb_f' (fun e => c_107 e.2.2.2.2.2.2.1)
              · refine jr_aload_n dX9_isLong_94 rfl ?_
                refine gfX9_49 92 dX9_isLong_95 (hw.k rfl) (hw.f rfl) ?_
                refine jr_aload_n dX9_isLong_98 rfl ?_
                refine gfX9_209 dX9_isLong_99 (hw.k rfl) ?_
                rw [h16]
                refine jr_iconst (4) dX9_isLong_102 (by decide) ?_
                refine jr_iadd dX9_isLong_103 ?_
                refine jr_iald (bg + 4) (hw.k rfl) (by rw [jlit 4, nI_add]) ⟨by omega, by decide⟩ dX9_isLong_104 ?_
                rw [hT]
                refine jr_iload dX9_isLong_105 rfl ?_
                refine jr_icmp_ne 135 dX9_isLong_107 (by decide) (fun c_107 => ?_) (fun c_107 => ?_)
                · refine jr_iconst (0) dX9_isLong_135 (by decide) ?_
                  refine jr_zret rfl (by decide) dX9_isLong_136 ?_
                  refine hQ _ _ ⟨?_, rfl⟩
                  first | exact jb_t' ⟨c_18, es2 hl, c_45, c_60, c_75, c_91, c_107, Or.inl hd⟩ | exact jb_f' (fun e => c_18 e.1) | exact jb_f' (fun e => c_32 (by rw [es3 e.2.1]; rfl)) | exact jb_f' (fun e => c_45 e.2.2.1) | exact jb_f' (fun e => c_60 e.2.2.2.1) | exact jb_f' (fun e => c_75 e.2.2.2.2.1) | exact jb_f' (fun e => c_91 e.2.2.2.2.2.1) | exact jb_f' (fun e => c_107 e.2.2.2.2.2.2.1)
                · refine jr_iload dX9_isLong_110 rfl ?_
                  refine jr_if_eq 131 dX9_isLong_112 (by decide) (fun c_112 => ?_) (fun c_112 => absurd hd c_112)
                  refine jr_iconst (1) dX9_isLong_131 (by decide) ?_
                  refine jr_goto 136 dX9_isLong_132 (by decide) ?_
                  refine jr_zret rfl (by decide) dX9_isLong_136 ?_
                  refine hQ _ _ ⟨?_, rfl⟩
                  first | exact jb_t' ⟨c_18, es2 hl, c_45, c_60, c_75, c_91, c_107, Or.inl hd⟩ | exact jb_f' (fun e => c_18 e.1) | exact jb_f' (fun e => c_32 (by rw [es3 e.2.1]; rfl)) | exact jb_f' (fun e => c_45 e.2.2.1) | exact jb_f' (fun e => c_60 e.2.2.2.1) | exact jb_f' (fun e => c_75 e.2.2.2.2.1) | exact jb_f' (fun e => c_91 e.2.2.2.2.2.1) | exact jb_f' (fun e => c_107 e.2.2.2.2.2.2.1)
  · have el : (6 : Int32).toInt = 6 := by decide
    have es2 : bh - bg = 6 → bh - bg = (if f = 0 then 5 else 6) := fun e => by rw [if_neg hd]; exact e
    have es3 : bh - bg = (if f = 0 then 5 else 6) → bh - bg = 6 := fun e => by rw [if_neg hd] at e; exact e
    have es4 : nI (bh - bg) = 6 → bh - bg = 6 := fun e => by rw [eq_i, es, el] at e; omega
    refine jr_iload dX9_isLong_0 rfl ?_
    refine jr_if_ne 9 dX9_isLong_2 (by decide) (fun c_2 => ?_) (fun c_2 => absurd c_2 hd)
    refine jr_bipush (6) dX9_isLong_9 (by decide) ?_
    refine jr_istore_7 dX9_isLong_11 (by decide) rfl ?_
    refine jr_aload_n dX9_isLong_13 rfl ?_
    refine gfX9_206 dX9_isLong_14 (hw.k rfl) ?_
    refine jr_iconst (1) dX9_isLong_17 (by decide) ?_
    refine jr_icmp_ne 135 dX9_isLong_18 (by decide) (fun c_18 => ?_) (fun c_18 => ?_)
    · refine jr_iconst (0) dX9_isLong_135 (by decide) ?_
      refine jr_zret rfl (by decide) dX9_isLong_136 ?_
      refine hQ _ _ ⟨?_, rfl⟩
      first | exact jb_t' ⟨c_18, es2 hl, c_45, c_60, c_75, c_91, c_107, Or.inr c_128⟩ | exact jb_f' (fun e => c_18 e.1) | exact jb_f' (fun e => c_32 (by rw [es3 e.2.1]; rfl)) | exact jb_f' (fun e => c_45 e.2.2.1) | exact jb_f' (fun e => c_60 e.2.2.2.1) | exact jb_f' (fun e => c_75 e.2.2.2.2.1) | exact jb_f' (fun e => c_91 e.2.2.2.2.2.1) | exact jb_f' (fun e => c_107 e.2.2.2.2.2.2.1) | exact jb_f' (fun e => (e.2.2.2.2.2.2.2).elim (fun h1 => hd h1) (fun h1 => c_128 h1))
    · refine jr_aload_n dX9_isLong_21 rfl ?_
      refine gfX9_203 dX9_isLong_22 (hw.k rfl) ?_
      rw [h17]
      refine jr_aload_n dX9_isLong_25 rfl ?_
      refine gfX9_209 dX9_isLong_26 (hw.k rfl) ?_
      rw [h16]
      refine jr_isub dX9_isLong_29 ?_
      rw [pk_sub hb]
      refine jr_iload dX9_isLong_30 rfl ?_
      refine jr_icmp_ne 135 dX9_isLong_32 (by decide) (fun c_32 => ?_) (fun c_32 => ?_)
      · refine jr_iconst (0) dX9_isLong_135 (by decide) ?_
        refine jr_zret rfl (by decide) dX9_isLong_136 ?_
        refine hQ _ _ ⟨?_, rfl⟩
        first | exact jb_t' ⟨c_18, es2 hl, c_45, c_60, c_75, c_91, c_107, Or.inr c_128⟩ | exact jb_f' (fun e => c_18 e.1) | exact jb_f' (fun e => c_32 (by rw [es3 e.2.1]; rfl)) | exact jb_f' (fun e => c_45 e.2.2.1) | exact jb_f' (fun e => c_60 e.2.2.2.1) | exact jb_f' (fun e => c_75 e.2.2.2.2.1) | exact jb_f' (fun e => c_91 e.2.2.2.2.2.1) | exact jb_f' (fun e => c_107 e.2.2.2.2.2.2.1) | exact jb_f' (fun e => (e.2.2.2.2.2.2.2).elim (fun h1 => hd h1) (fun h1 => c_128 h1))
      · have hl := es4 c_32
        refine jr_aload_n dX9_isLong_35 rfl ?_
        refine gfX9_49 92 dX9_isLong_36 (hw.k rfl) (hw.f rfl) ?_
        refine jr_aload_n dX9_isLong_39 rfl ?_
        refine gfX9_209 dX9_isLong_40 (hw.k rfl) ?_
        rw [h16]
        refine jr_iald bg (hw.k rfl) rfl ⟨by omega, by decide⟩ dX9_isLong_43 ?_
        rw [hT]
        refine jr_iload_n dX9_isLong_44 rfl ?_
        refine jr_icmp_ne 135 dX9_isLong_45 (by decide) (fun c_45 => ?_) (fun c_45 => ?_)
        · refine jr_iconst (0) dX9_isLong_135 (by decide) ?_
          refine jr_zret rfl (by decide) dX9_isLong_136 ?_
          refine hQ _ _ ⟨?_, rfl⟩
          first | exact jb_t' ⟨c_18, es2 hl, c_45, c_60, c_75, c_91, c_107, Or.inr c_128⟩ | exact jb_f' (fun e => c_18 e.1) | exact jb_f' (fun e => c_32 (by rw [es3 e.2.1]; rfl)) | exact jb_f' (fun e => c_45 e.2.2.1) | exact jb_f' (fun e => c_60 e.2.2.2.1) | exact jb_f' (fun e => c_75 e.2.2.2.2.1) | exact jb_f' (fun e => c_91 e.2.2.2.2.2.1) | exact jb_f' (fun e => c_107 e.2.2.2.2.2.2.1) | exact jb_f' (fun e => (e.2.2.2.2.2.2.2).elim (fun h1 => hd h1) (fun h1 => c_128 h1))
        · refine jr_aload_n dX9_isLong_48 rfl ?_
          refine gfX9_49 92 dX9_isLong_49 (hw.k rfl) (hw.f rfl) ?_
          refine jr_aload_n dX9_isLong_52 rfl ?_
          refine gfX9_209 dX9_isLong_53 (hw.k rfl) ?_
          rw [h16]
          refine jr_iconst (1) dX9_isLong_56 (by decide) ?_
          refine jr_iadd dX9_isLong_57 ?_
          refine jr_iald (bg + 1) (hw.k rfl) (by rw [jlit 1, nI_add]) ⟨by omega, by decide⟩ dX9_isLong_58 ?_
          rw [hT]
          refine jr_iload_n dX9_isLong_59 rfl ?_
          refine jr_icmp_ne 135 dX9_isLong_60 (by decide) (fun c_60 => ?_) (fun c_60 => ?_)
          · refine jr_iconst (0) dX9_isLong_135 (by decide) ?_
            refine jr_zret rfl (by decide) dX9_isLong_136 ?_
            refine hQ _ _ ⟨?_, rfl⟩
            first | exact jb_t' ⟨c_18, es2 hl, c_45, c_60, c_75, c_91, c_107, Or.inr c_128⟩ | exact jb_f' (fun e => c_18 e.1) | exact jb_f' (fun e => c_32 (by rw [es3 e.2.1]; rfl)) | exact jb_f' (fun e => c_45 e.2.2.1) | exact jb_f' (fun e => c_60 e.2.2.2.1) | exact jb_f' (fun e => c_75 e.2.2.2.2.1) | exact jb_f' (fun e => c_91 e.2.2.2.2.2.1) | exact jb_f' (fun e => c_107 e.2.2.2.2.2.2.1) | exact jb_f' (fun e => (e.2.2.2.2.2.2.2).elim (fun h1 => hd h1) (fun h1 => c_128 h1))
          · refine jr_aload_n dX9_isLong_63 rfl ?_
            refine gfX9_49 92 dX9_isLong_64 (hw.k rfl) (hw.f rfl) ?_
            refine jr_aload_n dX9_isLong_67 rfl ?_
            refine gfX9_209 dX9_isLong_68 (hw.k rfl) ?_
            rw [h16]
            refine jr_iconst (2) dX9_isLong_71 (by decide) ?_
            refine jr_iadd dX9_isLong_72 ?_
            refine jr_iald (bg + 2) (hw.k rfl) (by rw [jlit 2, nI_add]) ⟨by omega, by decide⟩ dX9_isLong_73 ?_
            rw [hT]
            refine jr_iload_n dX9_isLong_74 rfl ?_
            refine jr_icmp_ne 135 dX9_isLong_75 (by decide) (fun c_75 => ?_) (fun c_75 => ?_)
            · refine jr_iconst (0) dX9_isLong_135 (by decide) ?_
              refine jr_zret rfl (by decide) dX9_isLong_136 ?_
              refine hQ _ _ ⟨?_, rfl⟩
              first | exact jb_t' ⟨c_18, es2 hl, c_45, c_60, c_75, c_91, c_107, Or.inr c_128⟩ | exact jb_f' (fun e => c_18 e.1) | exact jb_f' (fun e => c_32 (by rw [es3 e.2.1]; rfl)) | exact jb_f' (fun e => c_45 e.2.2.1) | exact jb_f' (fun e => c_60 e.2.2.2.1) | exact jb_f' (fun e => c_75 e.2.2.2.2.1) | exact jb_f' (fun e => c_91 e.2.2.2.2.2.1) | exact jb_f' (fun e => c_107 e.2.2.2.2.2.2.1) | exact jb_f' (fun e => (e.2.2.2.2.2.2.2).elim (fun h1 => hd h1) (fun h1 => c_128 h1))
            · refine jr_aload_n dX9_isLong_78 rfl ?_
              refine gfX9_49 92 dX9_isLong_79 (hw.k rfl) (hw.f rfl) ?_
              refine jr_aload_n dX9_isLong_82 rfl ?_
              refine gfX9_209 dX9_isLong_83 (hw.k rfl) ?_
              rw [h16]
              refine jr_iconst (3) dX9_isLong_86 (by decide) ?_
              refine jr_iadd dX9_isLong_87 ?_
              refine jr_iald (bg + 3) (hw.k rfl) (by rw [jlit 3, nI_add]) ⟨by omega, by decide⟩ dX9_isLong_88 ?_
              rw [hT]
              refine jr_iload dX9_isLong_89 rfl ?_
              refine jr_icmp_ne 135 dX9_isLong_91 (by decide) (fun c_91 => ?_) (fun c_91 => ?_)
              · refine jr_iconst (0) dX9_isLong_135 (by decide) ?_
                refine jr_zret rfl (by decide) dX9_isLong_136 ?_
                refine hQ _ _ ⟨?_, rfl⟩
                first | exact jb_t' ⟨c_18, es2 hl, c_45, c_60, c_75, c_91, c_107, Or.inr c_128⟩ | exact jb_f' (fun e => c_18 e.1) | exact jb_f' (fun e => c_32 (by rw [es3 e.2.1]; rfl)) | exact jb_f' (fun e => c_45 e.2.2.1) | exact jb_f' (fun e => c_60 e.2.2.2.1) | exact jb_f' (fun e => c_75 e.2.2.2.2.1) | exact jb_f' (fun e => c_91 e.2.2.2.2.2.1) | exact jb_f' (fun e => c_107 e.2.2.2.2.2.2.1) | exact jb_f' (fun e => (e.2.2.2.2.2.2.2).elim (fun h1 => hd h1) (fun h1 => c_128 h1))
              · refine jr_aload_n dX9_isLong_94 rfl ?_
                refine gfX9_49 92 dX9_isLong_95 (hw.k rfl) (hw.f rfl) ?_
                refine jr_aload_n dX9_isLong_98 rfl ?_
                refine gfX9_209 dX9_isLong_99 (hw.k rfl) ?_
                rw [h16]
                refine jr_iconst (4) dX9_isLong_102 (by decide) ?_
                refine jr_iadd dX9_isLong_103 ?_
                refine jr_iald (bg + 4) (hw.k rfl) (by rw [jlit 4, nI_add]) ⟨by omega, by decide⟩ dX9_isLong_104 ?_
                rw [hT]
                refine jr_iload dX9_isLong_105 rfl ?_
                refine jr_icmp_ne 135 dX9_isLong_107 (by decide) (fun c_107 => ?_) (fun c_107 => ?_)
                · refine jr_iconst (0) dX9_isLong_135 (by decide) ?_
                  refine jr_zret rfl (by decide) dX9_isLong_136 ?_
                  refine hQ _ _ ⟨?_, rfl⟩
                  first | exact jb_t' ⟨c_18, es2 hl, c_45, c_60, c_75, c_91, c_107, Or.inr c_128⟩ | exact jb_f' (fun e => c_18 e.1) | exact jb_f' (fun e => c_32 (by rw [es3 e.2.1]; rfl)) | exact jb_f' (fun e => c_45 e.2.2.1) | exact jb_f' (fun e => c_60 e.2.2.2.1) | exact jb_f' (fun e => c_75 e.2.2.2.2.1) | exact jb_f' (fun e => c_91 e.2.2.2.2.2.1) | exact jb_f' (fun e => c_107 e.2.2.2.2.2.2.1) | exact jb_f' (fun e => (e.2.2.2.2.2.2.2).elim (fun h1 => hd h1) (fun h1 => c_128 h1))
                · refine jr_iload dX9_isLong_110 rfl ?_
                  refine jr_if_eq 131 dX9_isLong_112 (by decide) (fun c_112 => absurd c_112 hd) (fun c_112 => ?_)
                  refine jr_aload_n dX9_isLong_115 rfl ?_
                  refine gfX9_49 92 dX9_isLong_116 (hw.k rfl) (hw.f rfl) ?_
                  refine jr_aload_n dX9_isLong_119 rfl ?_
                  refine gfX9_209 dX9_isLong_120 (hw.k rfl) ?_
                  rw [h16]
                  refine jr_iconst (5) dX9_isLong_123 (by decide) ?_
                  refine jr_iadd dX9_isLong_124 ?_
                  refine jr_iald (bg + 5) (hw.k rfl) (by rw [jlit 5, nI_add]) ⟨by omega, by decide⟩ dX9_isLong_125 ?_
                  rw [hT]
                  refine jr_iload dX9_isLong_126 rfl ?_
                  refine jr_icmp_ne 135 dX9_isLong_128 (by decide) (fun c_128 => ?_) (fun c_128 => ?_)
                  · refine jr_iconst (0) dX9_isLong_135 (by decide) ?_
                    refine jr_zret rfl (by decide) dX9_isLong_136 ?_
                    refine hQ _ _ ⟨?_, rfl⟩
                    first | exact jb_t' ⟨c_18, es2 hl, c_45, c_60, c_75, c_91, c_107, Or.inr c_128⟩ | exact jb_f' (fun e => c_18 e.1) | exact jb_f' (fun e => c_32 (by rw [es3 e.2.1]; rfl)) | exact jb_f' (fun e => c_45 e.2.2.1) | exact jb_f' (fun e => c_60 e.2.2.2.1) | exact jb_f' (fun e => c_75 e.2.2.2.2.1) | exact jb_f' (fun e => c_91 e.2.2.2.2.2.1) | exact jb_f' (fun e => c_107 e.2.2.2.2.2.2.1) | exact jb_f' (fun e => (e.2.2.2.2.2.2.2).elim (fun h1 => hd h1) (fun h1 => c_128 h1))
                  · refine jr_iconst (1) dX9_isLong_131 (by decide) ?_
                    refine jr_goto 136 dX9_isLong_132 (by decide) ?_
                    refine jr_zret rfl (by decide) dX9_isLong_136 ?_
                    refine hQ _ _ ⟨?_, rfl⟩
                    first | exact jb_t' ⟨c_18, es2 hl, c_45, c_60, c_75, c_91, c_107, Or.inr c_128⟩ | exact jb_f' (fun e => c_18 e.1) | exact jb_f' (fun e => c_32 (by rw [es3 e.2.1]; rfl)) | exact jb_f' (fun e => c_45 e.2.2.1) | exact jb_f' (fun e => c_60 e.2.2.2.1) | exact jb_f' (fun e => c_75 e.2.2.2.2.1) | exact jb_f' (fun e => c_91 e.2.2.2.2.2.1) | exact jb_f' (fun e => c_107 e.2.2.2.2.2.2.1) | exact jb_f' (fun e => (e.2.2.2.2.2.2.2).elim (fun h1 => hd h1) (fun h1 => c_128 h1))
def keyF (tk : Int32) (bg bh : Nat) (T : Nat → Int32) : Int32 := if wdLP tk bg bh T 97 103 97 105 110 0 then 0 else if wdAP tk bg bh T 102 101 101 0 then 1 else if wdAP tk bg bh T 102 105 110 101 then 2 else -1
theorem c_key (g : Cx) (w : Wd) (hw : Wf w) (T : Nat → Int32) (hT : wI w 92 = T) (bg bh : Nat) (hb : bg ≤ bh) (hh : bh ≤ 96) (h16 : wI w 78 16 = nI bg) (h17 : wI w 78 17 = nI bh) : CI g yX9_key cX9_key 1 (some .int) 2 0 0 [.ref (gb g + 78)] w (fun r w' => r = keyF (wI w 78 18) bg bh T ∧ w = w') := by
  refine CI.of (own := RX9) (nm := "key") (lv := [some (.ref (gb g + 78))]) (by decide) rfl rfl (Nat.le_of_ble_eq_true rfl) rfl (fun Q hQ => ?_)
  refine jr_aload_n dX9_key_0 rfl ?_
  refine jr_bipush (97) dX9_key_1 (by decide) ?_
  refine jr_bipush (103) dX9_key_3 (by decide) ?_
  refine jr_bipush (97) dX9_key_5 (by decide) ?_
  refine jr_bipush (105) dX9_key_7 (by decide) ?_
  refine jr_bipush (110) dX9_key_9 (by decide) ?_
  refine jr_iconst (0) dX9_key_11 (by decide) ?_
  refine jc_Vi (c_isLong g _ hw T hT bg bh hb hh h16 h17 _ _ _ _ _ _) lkX9_224 (hw.k rfl) rfl rfl (Nat.le_of_ble_eq_true rfl) (Nat.le_of_ble_eq_true rfl) dX9_key_12 (fun r_12 w_12 h_12 => ?_)
  obtain ⟨rfl, rfl⟩ := h_12
  refine jr_if_eq 20 dX9_key_15 (by decide) (fun c_15 => ?_) (fun c_15 => ?_)
  · rw [jb_0] at c_15
    refine jr_aload_n dX9_key_20 rfl ?_
    refine jr_bipush (102) dX9_key_21 (by decide) ?_
    refine jr_bipush (101) dX9_key_23 (by decide) ?_
    refine jr_bipush (101) dX9_key_25 (by decide) ?_
    refine jr_iconst (0) dX9_key_27 (by decide) ?_
    refine jc_Vi (c_isWordAt g _ hw T hT bg bh hb hh h16 h17 _ _ _ _) lkX9_228 (hw.k rfl) rfl rfl (Nat.le_of_ble_eq_true rfl) (Nat.le_of_ble_eq_true rfl) dX9_key_28 (fun r_28 w_28 h_28 => ?_)
    obtain ⟨rfl, rfl⟩ := h_28
    refine jr_if_eq 36 dX9_key_31 (by decide) (fun c_31 => ?_) (fun c_31 => ?_)
    · rw [jb_0] at c_31
      refine jr_aload_n dX9_key_36 rfl ?_
      refine jr_bipush (102) dX9_key_37 (by decide) ?_
      refine jr_bipush (105) dX9_key_39 (by decide) ?_
      refine jr_bipush (110) dX9_key_41 (by decide) ?_
      refine jr_bipush (101) dX9_key_43 (by decide) ?_
      refine jc_Vi (c_isWordAt g _ hw T hT bg bh hb hh h16 h17 _ _ _ _) lkX9_228 (hw.k rfl) rfl rfl (Nat.le_of_ble_eq_true rfl) (Nat.le_of_ble_eq_true rfl) dX9_key_45 (fun r_45 w_45 h_45 => ?_)
      obtain ⟨rfl, rfl⟩ := h_45
      refine jr_if_eq 55 dX9_key_48 (by decide) (fun c_48 => ?_) (fun c_48 => ?_)
      · rw [jb_0] at c_48
        refine jr_iconst (-1) dX9_key_55 (by decide) ?_
        refine jr_iret rfl dX9_key_56 ?_
        refine hQ _ _ ⟨?_, rfl⟩
        unfold keyF
        first | (rw [if_pos c_15]; done) | (rw [if_neg c_15, if_pos c_31]; done) | (rw [if_neg c_15, if_neg c_31, if_pos c_48]; done) | (rw [if_neg c_15, if_neg c_31, if_neg c_48]; done)
      · rw [jb_1] at c_48
        refine jr_iconst (2) dX9_key_51 (by decide) ?_
        refine jr_goto 56 dX9_key_52 (by decide) ?_
        refine jr_iret rfl dX9_key_56 ?_
        refine hQ _ _ ⟨?_, rfl⟩
        unfold keyF
        first | (rw [if_pos c_15]; done) | (rw [if_neg c_15, if_pos c_31]; done) | (rw [if_neg c_15, if_neg c_31, if_pos c_48]; done) | (rw [if_neg c_15, if_neg c_31, if_neg c_48]; done)
    · rw [jb_1] at c_31
      refine jr_iconst (1) dX9_key_34 (by decide) ?_
      refine jr_iret rfl dX9_key_35 ?_
      refine hQ _ _ ⟨?_, rfl⟩
      unfold keyF
      first | (rw [if_pos c_15]; done) | (rw [if_neg c_15, if_pos c_31]; done) | (rw [if_neg c_15, if_neg c_31, if_pos c_48]; done) | (rw [if_neg c_15, if_neg c_31, if_neg c_48]; done)
  · rw [jb_1] at c_15
    refine jr_iconst (0) dX9_key_18 (by decide) ?_
    refine jr_iret rfl dX9_key_19 ?_
    refine hQ _ _ ⟨?_, rfl⟩
    unfold keyF
    first | (rw [if_pos c_15]; done) | (rw [if_neg c_15, if_pos c_31]; done) | (rw [if_neg c_15, if_neg c_31, if_pos c_48]; done) | (rw [if_neg c_15, if_neg c_31, if_neg c_48]; done)
/-- the names that a text of kind k may use -/
abbrev nmP (k x : Int32) : Prop := (k.toInt = 0 ∧ (x.toInt = 111 ∨ x.toInt = 116 ∨ x.toInt = 104)) ∨ (k.toInt = 1 ∧ (x.toInt = 101 ∨ x.toInt = 109)) ∨ ((¬ k.toInt = 0 ∧ ¬ k.toInt = 1) ∧ (x.toInt = 111 ∨ x.toInt = 116))
theorem c_isName (g : Cx) (w : Wd) (k x : Int32) : CI g yX9_isName cX9_isName 2 (some .boolean) 1 0 0 [.int k, .int x] w (fun r w' => r = jb (nmP k x) ∧ w = w') := by
  refine CI.of (own := RX9) (nm := "isName") (lv := [some (.int k), some (.int x)]) (by decide) rfl rfl (Nat.le_of_ble_eq_true rfl) rfl (fun Q hQ => ?_)
  refine jr_iload_n dX9_isName_0 rfl ?_
  refine swX9_isName_1 (fun c_1 => ?_) (fun c_1 => ?_) (fun c_1 => ?_)
  · refine jr_iload_n dX9_isName_28 rfl ?_
    refine jr_bipush (111) dX9_isName_29 (by decide) ?_
    refine jr_icmp_eq 46 dX9_isName_31 (by decide) (fun c_31 => ?_) (fun c_31 => ?_)
    · simp only [lt_i, le_i, eq_i, Int32.reduceToInt] at c_31
      refine jr_iconst (1) dX9_isName_46 (by decide) ?_
      refine jr_goto 51 dX9_isName_47 (by decide) ?_
      refine jr_zret rfl (by decide) dX9_isName_51 ?_
      refine hQ _ _ ⟨?_, rfl⟩
      first | exact jb_t' (by unfold nmP; omega) | exact jb_f' (by unfold nmP; omega)
    · simp only [lt_i, le_i, eq_i, Int32.reduceToInt] at c_31
      refine jr_iload_n dX9_isName_34 rfl ?_
      refine jr_bipush (116) dX9_isName_35 (by decide) ?_
      refine jr_icmp_eq 46 dX9_isName_37 (by decide) (fun c_37 => ?_) (fun c_37 => ?_)
      · simp only [lt_i, le_i, eq_i, Int32.reduceToInt] at c_37
        refine jr_iconst (1) dX9_isName_46 (by decide) ?_
        refine jr_goto 51 dX9_isName_47 (by decide) ?_
        refine jr_zret rfl (by decide) dX9_isName_51 ?_
        refine hQ _ _ ⟨?_, rfl⟩
        first | exact jb_t' (by unfold nmP; omega) | exact jb_f' (by unfold nmP; omega)
      · simp only [lt_i, le_i, eq_i, Int32.reduceToInt] at c_37
        refine jr_iload_n dX9_isName_40 rfl ?_
        refine jr_bipush (104) dX9_isName_41 (by decide) ?_
        refine jr_icmp_ne 50 dX9_isName_43 (by decide) (fun c_43 => ?_) (fun c_43 => ?_)
        · simp only [lt_i, le_i, eq_i, Int32.reduceToInt] at c_43
          refine jr_iconst (0) dX9_isName_50 (by decide) ?_
          refine jr_zret rfl (by decide) dX9_isName_51 ?_
          refine hQ _ _ ⟨?_, rfl⟩
          first | exact jb_t' (by unfold nmP; omega) | exact jb_f' (by unfold nmP; omega)
        · simp only [lt_i, le_i, eq_i, Int32.reduceToInt] at c_43
          refine jr_iconst (1) dX9_isName_46 (by decide) ?_
          refine jr_goto 51 dX9_isName_47 (by decide) ?_
          refine jr_zret rfl (by decide) dX9_isName_51 ?_
          refine hQ _ _ ⟨?_, rfl⟩
          first | exact jb_t' (by unfold nmP; omega) | exact jb_f' (by unfold nmP; omega)
  · refine jr_iload_n dX9_isName_52 rfl ?_
    refine jr_bipush (101) dX9_isName_53 (by decide) ?_
    refine jr_icmp_eq 64 dX9_isName_55 (by decide) (fun c_55 => ?_) (fun c_55 => ?_)
    · simp only [lt_i, le_i, eq_i, Int32.reduceToInt] at c_55
      refine jr_iconst (1) dX9_isName_64 (by decide) ?_
      refine jr_goto 69 dX9_isName_65 (by decide) ?_
      refine jr_zret rfl (by decide) dX9_isName_69 ?_
      refine hQ _ _ ⟨?_, rfl⟩
      first | exact jb_t' (by unfold nmP; omega) | exact jb_f' (by unfold nmP; omega)
    · simp only [lt_i, le_i, eq_i, Int32.reduceToInt] at c_55
      refine jr_iload_n dX9_isName_58 rfl ?_
      refine jr_bipush (109) dX9_isName_59 (by decide) ?_
      refine jr_icmp_ne 68 dX9_isName_61 (by decide) (fun c_61 => ?_) (fun c_61 => ?_)
      · simp only [lt_i, le_i, eq_i, Int32.reduceToInt] at c_61
        refine jr_iconst (0) dX9_isName_68 (by decide) ?_
        refine jr_zret rfl (by decide) dX9_isName_69 ?_
        refine hQ _ _ ⟨?_, rfl⟩
        first | exact jb_t' (by unfold nmP; omega) | exact jb_f' (by unfold nmP; omega)
      · simp only [lt_i, le_i, eq_i, Int32.reduceToInt] at c_61
        refine jr_iconst (1) dX9_isName_64 (by decide) ?_
        refine jr_goto 69 dX9_isName_65 (by decide) ?_
        refine jr_zret rfl (by decide) dX9_isName_69 ?_
        refine hQ _ _ ⟨?_, rfl⟩
        first | exact jb_t' (by unfold nmP; omega) | exact jb_f' (by unfold nmP; omega)
  · refine jr_iload_n dX9_isName_70 rfl ?_
    refine jr_bipush (111) dX9_isName_71 (by decide) ?_
    refine jr_icmp_eq 82 dX9_isName_73 (by decide) (fun c_73 => ?_) (fun c_73 => ?_)
    · simp only [lt_i, le_i, eq_i, Int32.reduceToInt] at c_73
      refine jr_iconst (1) dX9_isName_82 (by decide) ?_
      refine jr_goto 87 dX9_isName_83 (by decide) ?_
      refine jr_zret rfl (by decide) dX9_isName_87 ?_
      refine hQ _ _ ⟨?_, rfl⟩
      first | exact jb_t' (by unfold nmP; omega) | exact jb_f' (by unfold nmP; omega)
    · simp only [lt_i, le_i, eq_i, Int32.reduceToInt] at c_73
      refine jr_iload_n dX9_isName_76 rfl ?_
      refine jr_bipush (116) dX9_isName_77 (by decide) ?_
      refine jr_icmp_ne 86 dX9_isName_79 (by decide) (fun c_79 => ?_) (fun c_79 => ?_)
      · simp only [lt_i, le_i, eq_i, Int32.reduceToInt] at c_79
        refine jr_iconst (0) dX9_isName_86 (by decide) ?_
        refine jr_zret rfl (by decide) dX9_isName_87 ?_
        refine hQ _ _ ⟨?_, rfl⟩
        first | exact jb_t' (by unfold nmP; omega) | exact jb_f' (by unfold nmP; omega)
      · simp only [lt_i, le_i, eq_i, Int32.reduceToInt] at c_79
        refine jr_iconst (1) dX9_isName_82 (by decide) ?_
        refine jr_goto 87 dX9_isName_83 (by decide) ?_
        refine jr_zret rfl (by decide) dX9_isName_87 ?_
        refine hQ _ _ ⟨?_, rfl⟩
        first | exact jb_t' (by unfold nmP; omega) | exact jb_f' (by unfold nmP; omega)
