theorem rng_cases {x : Int} (lo : Int) (n : Nat) (h1 : lo ≤ x) (h2 : x < lo + n) : ∃ k : Nat, k < n ∧ x = lo + k := ⟨(x - lo).toNat, by omega, by omega⟩
theorem swX0_worth_4 {g : Cx} {d kc ks rk rn : Nat} {lv : List (Option Value)} {st : List Value} {w : Wd} {Q : Option Value → Wd → Prop} {x : Int32} (K40 : x.toInt = 1 → RR g RX0 cX0_worth 1 (some .int) "worth" d kc ks rk rn 40 lv st w Q) (K56 : x.toInt = 2 → RR g RX0 cX0_worth 1 (some .int) "worth" d kc ks rk rn 56 lv st w Q) (K47 : x.toInt = 3 → RR g RX0 cX0_worth 1 (some .int) "worth" d kc ks rk rn 47 lv st w Q) (K64 : x.toInt = 4 → RR g RX0 cX0_worth 1 (some .int) "worth" d kc ks rk rn 64 lv st w Q) (K74 : x.toInt = 5 → RR g RX0 cX0_worth 1 (some .int) "worth" d kc ks rk rn 74 lv st w Q) (KD : x.toInt ≠ 1 ∧ x.toInt ≠ 2 ∧ x.toInt ≠ 3 ∧ x.toInt ≠ 4 ∧ x.toInt ≠ 5 → RR g RX0 cX0_worth 1 (some .int) "worth" d kc ks rk rn 76 lv st w Q) : RR g RX0 cX0_worth 1 (some .int) "worth" d kc ks rk rn 4 lv (.int x :: st) w Q := by
  by_cases hin : 1 ≤ x.toInt ∧ x.toInt < 1 + (5 : Nat)
  · obtain ⟨k, hk, e⟩ := rng_cases 1 5 hin.1 hin.2
    have hk2 : k = 0 ∨ k = 1 ∨ k = 2 ∨ k = 3 ∨ k = 4 := by omega
    rcases hk2 with rfl | rfl | rfl | rfl | rfl
    · have e : x.toInt = 1 := by omega
      exact jr_tableIn 40 dX0_worth_4 (by omega) (by omega) (by rw [e]; rfl) (by decide) (K40 (by omega))
    · have e : x.toInt = 2 := by omega
      exact jr_tableIn 56 dX0_worth_4 (by omega) (by omega) (by rw [e]; rfl) (by decide) (K56 (by omega))
    · have e : x.toInt = 3 := by omega
      exact jr_tableIn 47 dX0_worth_4 (by omega) (by omega) (by rw [e]; rfl) (by decide) (K47 (by omega))
    · have e : x.toInt = 4 := by omega
      exact jr_tableIn 64 dX0_worth_4 (by omega) (by omega) (by rw [e]; rfl) (by decide) (K64 (by omega))
    · have e : x.toInt = 5 := by omega
      exact jr_tableIn 74 dX0_worth_4 (by omega) (by omega) (by rw [e]; rfl) (by decide) (K74 (by omega))
  · exact jr_tableOut 76 dX0_worth_4 (by omega) (by decide) (KD (by omega))
theorem swX2_bedCount_1 {g : Cx} {d kc ks rk rn : Nat} {lv : List (Option Value)} {st : List Value} {w : Wd} {Q : Option Value → Wd → Prop} {x : Int32} (K28 : x.toInt = 0 → RR g RX2 cX2_bedCount 2 (some .int) "bedCount" d kc ks rk rn 28 lv st w Q) (K33 : x.toInt = 1 → RR g RX2 cX2_bedCount 2 (some .int) "bedCount" d kc ks rk rn 33 lv st w Q) (K38 : x.toInt = 2 → RR g RX2 cX2_bedCount 2 (some .int) "bedCount" d kc ks rk rn 38 lv st w Q) (KD : x.toInt ≠ 0 ∧ x.toInt ≠ 1 ∧ x.toInt ≠ 2 → RR g RX2 cX2_bedCount 2 (some .int) "bedCount" d kc ks rk rn 43 lv st w Q) : RR g RX2 cX2_bedCount 2 (some .int) "bedCount" d kc ks rk rn 1 lv (.int x :: st) w Q := by
  by_cases hin : 0 ≤ x.toInt ∧ x.toInt < 0 + (3 : Nat)
  · obtain ⟨k, hk, e⟩ := rng_cases 0 3 hin.1 hin.2
    have hk2 : k = 0 ∨ k = 1 ∨ k = 2 := by omega
    rcases hk2 with rfl | rfl | rfl
    · have e : x.toInt = 0 := by omega
      exact jr_tableIn 28 dX2_bedCount_1 (by omega) (by omega) (by rw [e]; rfl) (by decide) (K28 (by omega))
    · have e : x.toInt = 1 := by omega
      exact jr_tableIn 33 dX2_bedCount_1 (by omega) (by omega) (by rw [e]; rfl) (by decide) (K33 (by omega))
    · have e : x.toInt = 2 := by omega
      exact jr_tableIn 38 dX2_bedCount_1 (by omega) (by omega) (by rw [e]; rfl) (by decide) (K38 (by omega))
  · exact jr_tableOut 43 dX2_bedCount_1 (by omega) (by decide) (KD (by omega))
theorem swX5_joined_1 {g : Cx} {d kc ks rk rn : Nat} {lv : List (Option Value)} {st : List Value} {w : Wd} {Q : Option Value → Wd → Prop} {x : Int32} (K90 : x.toInt = 38 → RR g RX5 cX5_joined 3 (some .int) "joined" d kc ks rk rn 90 lv st w Q) (K145 : x.toInt = 42 → RR g RX5 cX5_joined 3 (some .int) "joined" d kc ks rk rn 145 lv st w Q) (K137 : x.toInt = 43 → RR g RX5 cX5_joined 3 (some .int) "joined" d kc ks rk rn 137 lv st w Q) (K141 : x.toInt = 45 → RR g RX5 cX5_joined 3 (some .int) "joined" d kc ks rk rn 141 lv st w Q) (K104 : x.toInt = 60 → RR g RX5 cX5_joined 3 (some .int) "joined" d kc ks rk rn 104 lv st w Q) (K115 : x.toInt = 61 → RR g RX5 cX5_joined 3 (some .int) "joined" d kc ks rk rn 115 lv st w Q) (K126 : x.toInt = 62 → RR g RX5 cX5_joined 3 (some .int) "joined" d kc ks rk rn 126 lv st w Q) (K76 : x.toInt = 124 → RR g RX5 cX5_joined 3 (some .int) "joined" d kc ks rk rn 76 lv st w Q) (KD : x.toInt ≠ 38 ∧ x.toInt ≠ 42 ∧ x.toInt ≠ 43 ∧ x.toInt ≠ 45 ∧ x.toInt ≠ 60 ∧ x.toInt ≠ 61 ∧ x.toInt ≠ 62 ∧ x.toInt ≠ 124 → RR g RX5 cX5_joined 3 (some .int) "joined" d kc ks rk rn 149 lv st w Q) : RR g RX5 cX5_joined 3 (some .int) "joined" d kc ks rk rn 1 lv (.int x :: st) w Q := by
  by_cases e38 : x.toInt = 38
  · exact jr_lookup (off := 89) 90 dX5_joined_1 (by decide) (by rw [e38]; decide) (by decide) (K90 (by omega))
  by_cases e42 : x.toInt = 42
  · exact jr_lookup (off := 144) 145 dX5_joined_1 (by decide) (by rw [e42]; decide) (by decide) (K145 (by omega))
  by_cases e43 : x.toInt = 43
  · exact jr_lookup (off := 136) 137 dX5_joined_1 (by decide) (by rw [e43]; decide) (by decide) (K137 (by omega))
  by_cases e45 : x.toInt = 45
  · exact jr_lookup (off := 140) 141 dX5_joined_1 (by decide) (by rw [e45]; decide) (by decide) (K141 (by omega))
  by_cases e60 : x.toInt = 60
  · exact jr_lookup (off := 103) 104 dX5_joined_1 (by decide) (by rw [e60]; decide) (by decide) (K104 (by omega))
  by_cases e61 : x.toInt = 61
  · exact jr_lookup (off := 114) 115 dX5_joined_1 (by decide) (by rw [e61]; decide) (by decide) (K115 (by omega))
  by_cases e62 : x.toInt = 62
  · exact jr_lookup (off := 125) 126 dX5_joined_1 (by decide) (by rw [e62]; decide) (by decide) (K126 (by omega))
  by_cases e124 : x.toInt = 124
  · exact jr_lookup (off := 75) 76 dX5_joined_1 (by decide) (by rw [e124]; decide) (by decide) (K76 (by omega))
  · exact jr_lookup (off := 148) 149 dX5_joined_1 (by decide) (by simp [Op.lookupswitch.offset, Ne.symm e38, Ne.symm e42, Ne.symm e43, Ne.symm e45, Ne.symm e60, Ne.symm e61, Ne.symm e62, Ne.symm e124]) (by decide) (KD (by omega))
theorem swX8_told_25 {g : Cx} {d kc ks rk rn : Nat} {lv : List (Option Value)} {st : List Value} {w : Wd} {Q : Option Value → Wd → Prop} {x : Int32} (K64 : x.toInt = 0 → RR g RX8 cX8_told 4 (some .int) "told" d kc ks rk rn 64 lv st w Q) (K69 : x.toInt = 1 → RR g RX8 cX8_told 4 (some .int) "told" d kc ks rk rn 69 lv st w Q) (K74 : x.toInt = 2 → RR g RX8 cX8_told 4 (some .int) "told" d kc ks rk rn 74 lv st w Q) (K79 : x.toInt = 3 → RR g RX8 cX8_told 4 (some .int) "told" d kc ks rk rn 79 lv st w Q) (K95 : x.toInt = 4 → RR g RX8 cX8_told 4 (some .int) "told" d kc ks rk rn 95 lv st w Q) (K104 : x.toInt = 5 → RR g RX8 cX8_told 4 (some .int) "told" d kc ks rk rn 104 lv st w Q) (KD : x.toInt ≠ 0 ∧ x.toInt ≠ 1 ∧ x.toInt ≠ 2 ∧ x.toInt ≠ 3 ∧ x.toInt ≠ 4 ∧ x.toInt ≠ 5 → RR g RX8 cX8_told 4 (some .int) "told" d kc ks rk rn 109 lv st w Q) : RR g RX8 cX8_told 4 (some .int) "told" d kc ks rk rn 25 lv (.int x :: st) w Q := by
  by_cases hin : 0 ≤ x.toInt ∧ x.toInt < 0 + (6 : Nat)
  · obtain ⟨k, hk, e⟩ := rng_cases 0 6 hin.1 hin.2
    have hk2 : k = 0 ∨ k = 1 ∨ k = 2 ∨ k = 3 ∨ k = 4 ∨ k = 5 := by omega
    rcases hk2 with rfl | rfl | rfl | rfl | rfl | rfl
    · have e : x.toInt = 0 := by omega
      exact jr_tableIn 64 dX8_told_25 (by omega) (by omega) (by rw [e]; rfl) (by decide) (K64 (by omega))
    · have e : x.toInt = 1 := by omega
      exact jr_tableIn 69 dX8_told_25 (by omega) (by omega) (by rw [e]; rfl) (by decide) (K69 (by omega))
    · have e : x.toInt = 2 := by omega
      exact jr_tableIn 74 dX8_told_25 (by omega) (by omega) (by rw [e]; rfl) (by decide) (K74 (by omega))
    · have e : x.toInt = 3 := by omega
      exact jr_tableIn 79 dX8_told_25 (by omega) (by omega) (by rw [e]; rfl) (by decide) (K79 (by omega))
    · have e : x.toInt = 4 := by omega
      exact jr_tableIn 95 dX8_told_25 (by omega) (by omega) (by rw [e]; rfl) (by decide) (K95 (by omega))
    · have e : x.toInt = 5 := by omega
      exact jr_tableIn 104 dX8_told_25 (by omega) (by omega) (by rw [e]; rfl) (by decide) (K104 (by omega))
  · exact jr_tableOut 109 dX8_told_25 (by omega) (by decide) (KD (by omega))
theorem swX8_may_41 {g : Cx} {d kc ks rk rn : Nat} {lv : List (Option Value)} {st : List Value} {w : Wd} {Q : Option Value → Wd → Prop} {x : Int32} (K68 : x.toInt = 0 → RR g RX8 cX8_may 2 (some .int) "may" d kc ks rk rn 68 lv st w Q) (K76 : x.toInt = 1 → RR g RX8 cX8_may 2 (some .int) "may" d kc ks rk rn 76 lv st w Q) (K84 : x.toInt = 2 → RR g RX8 cX8_may 2 (some .int) "may" d kc ks rk rn 84 lv st w Q) (KD : x.toInt ≠ 0 ∧ x.toInt ≠ 1 ∧ x.toInt ≠ 2 → RR g RX8 cX8_may 2 (some .int) "may" d kc ks rk rn 92 lv st w Q) : RR g RX8 cX8_may 2 (some .int) "may" d kc ks rk rn 41 lv (.int x :: st) w Q := by
  by_cases hin : 0 ≤ x.toInt ∧ x.toInt < 0 + (3 : Nat)
  · obtain ⟨k, hk, e⟩ := rng_cases 0 3 hin.1 hin.2
    have hk2 : k = 0 ∨ k = 1 ∨ k = 2 := by omega
    rcases hk2 with rfl | rfl | rfl
    · have e : x.toInt = 0 := by omega
      exact jr_tableIn 68 dX8_may_41 (by omega) (by omega) (by rw [e]; rfl) (by decide) (K68 (by omega))
    · have e : x.toInt = 1 := by omega
      exact jr_tableIn 76 dX8_may_41 (by omega) (by omega) (by rw [e]; rfl) (by decide) (K76 (by omega))
    · have e : x.toInt = 2 := by omega
      exact jr_tableIn 84 dX8_may_41 (by omega) (by omega) (by rw [e]; rfl) (by decide) (K84 (by omega))
  · exact jr_tableOut 92 dX8_may_41 (by omega) (by decide) (KD (by omega))
theorem swX8_count_1 {g : Cx} {d kc ks rk rn : Nat} {lv : List (Option Value)} {st : List Value} {w : Wd} {Q : Option Value → Wd → Prop} {x : Int32} (K48 : x.toInt = 0 → RR g RX8 cX8_count 2 (some .int) "count" d kc ks rk rn 48 lv st w Q) (K56 : x.toInt = 1 → RR g RX8 cX8_count 2 (some .int) "count" d kc ks rk rn 56 lv st w Q) (K64 : x.toInt = 2 → RR g RX8 cX8_count 2 (some .int) "count" d kc ks rk rn 64 lv st w Q) (K72 : x.toInt = 3 → RR g RX8 cX8_count 2 (some .int) "count" d kc ks rk rn 72 lv st w Q) (K80 : x.toInt = 4 → RR g RX8 cX8_count 2 (some .int) "count" d kc ks rk rn 80 lv st w Q) (K88 : x.toInt = 5 → RR g RX8 cX8_count 2 (some .int) "count" d kc ks rk rn 88 lv st w Q) (K93 : x.toInt = 6 → RR g RX8 cX8_count 2 (some .int) "count" d kc ks rk rn 93 lv st w Q) (K98 : x.toInt = 7 → RR g RX8 cX8_count 2 (some .int) "count" d kc ks rk rn 98 lv st w Q) (KD : x.toInt ≠ 0 ∧ x.toInt ≠ 1 ∧ x.toInt ≠ 2 ∧ x.toInt ≠ 3 ∧ x.toInt ≠ 4 ∧ x.toInt ≠ 5 ∧ x.toInt ≠ 6 ∧ x.toInt ≠ 7 → RR g RX8 cX8_count 2 (some .int) "count" d kc ks rk rn 106 lv st w Q) : RR g RX8 cX8_count 2 (some .int) "count" d kc ks rk rn 1 lv (.int x :: st) w Q := by
  by_cases hin : 0 ≤ x.toInt ∧ x.toInt < 0 + (8 : Nat)
  · obtain ⟨k, hk, e⟩ := rng_cases 0 8 hin.1 hin.2
    have hk2 : k = 0 ∨ k = 1 ∨ k = 2 ∨ k = 3 ∨ k = 4 ∨ k = 5 ∨ k = 6 ∨ k = 7 := by omega
    rcases hk2 with rfl | rfl | rfl | rfl | rfl | rfl | rfl | rfl
    · have e : x.toInt = 0 := by omega
      exact jr_tableIn 48 dX8_count_1 (by omega) (by omega) (by rw [e]; rfl) (by decide) (K48 (by omega))
    · have e : x.toInt = 1 := by omega
      exact jr_tableIn 56 dX8_count_1 (by omega) (by omega) (by rw [e]; rfl) (by decide) (K56 (by omega))
    · have e : x.toInt = 2 := by omega
      exact jr_tableIn 64 dX8_count_1 (by omega) (by omega) (by rw [e]; rfl) (by decide) (K64 (by omega))
    · have e : x.toInt = 3 := by omega
      exact jr_tableIn 72 dX8_count_1 (by omega) (by omega) (by rw [e]; rfl) (by decide) (K72 (by omega))
    · have e : x.toInt = 4 := by omega
      exact jr_tableIn 80 dX8_count_1 (by omega) (by omega) (by rw [e]; rfl) (by decide) (K80 (by omega))
    · have e : x.toInt = 5 := by omega
      exact jr_tableIn 88 dX8_count_1 (by omega) (by omega) (by rw [e]; rfl) (by decide) (K88 (by omega))
    · have e : x.toInt = 6 := by omega
      exact jr_tableIn 93 dX8_count_1 (by omega) (by omega) (by rw [e]; rfl) (by decide) (K93 (by omega))
    · have e : x.toInt = 7 := by omega
      exact jr_tableIn 98 dX8_count_1 (by omega) (by omega) (by rw [e]; rfl) (by decide) (K98 (by omega))
  · exact jr_tableOut 106 dX8_count_1 (by omega) (by decide) (KD (by omega))
theorem swX8_fullStrokes_1 {g : Cx} {d kc ks rk rn : Nat} {lv : List (Option Value)} {st : List Value} {w : Wd} {Q : Option Value → Wd → Prop} {x : Int32} (K28 : x.toInt = 3 → RR g RX8 cX8_fullStrokes 2 (some .int) "fullStrokes" d kc ks rk rn 28 lv st w Q) (K32 : x.toInt = 4 → RR g RX8 cX8_fullStrokes 2 (some .int) "fullStrokes" d kc ks rk rn 32 lv st w Q) (KD : x.toInt ≠ 3 ∧ x.toInt ≠ 4 → RR g RX8 cX8_fullStrokes 2 (some .int) "fullStrokes" d kc ks rk rn 40 lv st w Q) : RR g RX8 cX8_fullStrokes 2 (some .int) "fullStrokes" d kc ks rk rn 1 lv (.int x :: st) w Q := by
  by_cases e3 : x.toInt = 3
  · exact jr_lookup (off := 27) 28 dX8_fullStrokes_1 (by decide) (by rw [e3]; decide) (by decide) (K28 (by omega))
  by_cases e4 : x.toInt = 4
  · exact jr_lookup (off := 31) 32 dX8_fullStrokes_1 (by decide) (by rw [e4]; decide) (by decide) (K32 (by omega))
  · exact jr_lookup (off := 39) 40 dX8_fullStrokes_1 (by decide) (by simp [Op.lookupswitch.offset, Ne.symm e3, Ne.symm e4]) (by decide) (KD (by omega))
theorem swX8_strokesWithin_11 {g : Cx} {d kc ks rk rn : Nat} {lv : List (Option Value)} {st : List Value} {w : Wd} {Q : Option Value → Wd → Prop} {x : Int32} (K44 : x.toInt = 1 ∨ x.toInt = 3 → RR g RX8 cX8_strokesWithin 4 (some .int) "strokesWithin" d kc ks rk rn 44 lv st w Q) (K60 : x.toInt = 2 ∨ x.toInt = 4 → RR g RX8 cX8_strokesWithin 4 (some .int) "strokesWithin" d kc ks rk rn 60 lv st w Q) (K75 : x.toInt = 5 → RR g RX8 cX8_strokesWithin 4 (some .int) "strokesWithin" d kc ks rk rn 75 lv st w Q) (KD : x.toInt ≠ 1 ∧ x.toInt ≠ 2 ∧ x.toInt ≠ 3 ∧ x.toInt ≠ 4 ∧ x.toInt ≠ 5 → RR g RX8 cX8_strokesWithin 4 (some .int) "strokesWithin" d kc ks rk rn 87 lv st w Q) : RR g RX8 cX8_strokesWithin 4 (some .int) "strokesWithin" d kc ks rk rn 11 lv (.int x :: st) w Q := by
  by_cases hin : 1 ≤ x.toInt ∧ x.toInt < 1 + (5 : Nat)
  · obtain ⟨k, hk, e⟩ := rng_cases 1 5 hin.1 hin.2
    have hk2 : k = 0 ∨ k = 1 ∨ k = 2 ∨ k = 3 ∨ k = 4 := by omega
    rcases hk2 with rfl | rfl | rfl | rfl | rfl
    · have e : x.toInt = 1 := by omega
      exact jr_tableIn 44 dX8_strokesWithin_11 (by omega) (by omega) (by rw [e]; rfl) (by decide) (K44 (by omega))
    · have e : x.toInt = 2 := by omega
      exact jr_tableIn 60 dX8_strokesWithin_11 (by omega) (by omega) (by rw [e]; rfl) (by decide) (K60 (by omega))
    · have e : x.toInt = 3 := by omega
      exact jr_tableIn 44 dX8_strokesWithin_11 (by omega) (by omega) (by rw [e]; rfl) (by decide) (K44 (by omega))
    · have e : x.toInt = 4 := by omega
      exact jr_tableIn 60 dX8_strokesWithin_11 (by omega) (by omega) (by rw [e]; rfl) (by decide) (K60 (by omega))
    · have e : x.toInt = 5 := by omega
      exact jr_tableIn 75 dX8_strokesWithin_11 (by omega) (by omega) (by rw [e]; rfl) (by decide) (K75 (by omega))
  · exact jr_tableOut 87 dX8_strokesWithin_11 (by omega) (by decide) (KD (by omega))
theorem swX9_strikes_59 {g : Cx} {d kc ks rk rn : Nat} {lv : List (Option Value)} {st : List Value} {w : Wd} {Q : Option Value → Wd → Prop} {x : Int32} (K92 : x.toInt = 1 ∨ x.toInt = 3 → RR g RX9 cX9_strikes 6 (some .int) "strikes" d kc ks rk rn 92 lv st w Q) (K123 : x.toInt = 2 ∨ x.toInt = 4 → RR g RX9 cX9_strikes 6 (some .int) "strikes" d kc ks rk rn 123 lv st w Q) (K110 : x.toInt = 5 → RR g RX9 cX9_strikes 6 (some .int) "strikes" d kc ks rk rn 110 lv st w Q) (KD : x.toInt ≠ 1 ∧ x.toInt ≠ 2 ∧ x.toInt ≠ 3 ∧ x.toInt ≠ 4 ∧ x.toInt ≠ 5 → RR g RX9 cX9_strikes 6 (some .int) "strikes" d kc ks rk rn 154 lv st w Q) : RR g RX9 cX9_strikes 6 (some .int) "strikes" d kc ks rk rn 59 lv (.int x :: st) w Q := by
  by_cases hin : 1 ≤ x.toInt ∧ x.toInt < 1 + (5 : Nat)
  · obtain ⟨k, hk, e⟩ := rng_cases 1 5 hin.1 hin.2
    have hk2 : k = 0 ∨ k = 1 ∨ k = 2 ∨ k = 3 ∨ k = 4 := by omega
    rcases hk2 with rfl | rfl | rfl | rfl | rfl
    · have e : x.toInt = 1 := by omega
      exact jr_tableIn 92 dX9_strikes_59 (by omega) (by omega) (by rw [e]; rfl) (by decide) (K92 (by omega))
    · have e : x.toInt = 2 := by omega
      exact jr_tableIn 123 dX9_strikes_59 (by omega) (by omega) (by rw [e]; rfl) (by decide) (K123 (by omega))
    · have e : x.toInt = 3 := by omega
      exact jr_tableIn 92 dX9_strikes_59 (by omega) (by omega) (by rw [e]; rfl) (by decide) (K92 (by omega))
    · have e : x.toInt = 4 := by omega
      exact jr_tableIn 123 dX9_strikes_59 (by omega) (by omega) (by rw [e]; rfl) (by decide) (K123 (by omega))
    · have e : x.toInt = 5 := by omega
      exact jr_tableIn 110 dX9_strikes_59 (by omega) (by omega) (by rw [e]; rfl) (by decide) (K110 (by omega))
  · exact jr_tableOut 154 dX9_strikes_59 (by omega) (by decide) (KD (by omega))
theorem swX9_worth_13 {g : Cx} {d kc ks rk rn : Nat} {lv : List (Option Value)} {st : List Value} {w : Wd} {Q : Option Value → Wd → Prop} {x : Int32} (K48 : x.toInt = 1 → RR g RX9 cX9_worth 3 (some .int) "worth" d kc ks rk rn 48 lv st w Q) (K58 : x.toInt = 2 → RR g RX9 cX9_worth 3 (some .int) "worth" d kc ks rk rn 58 lv st w Q) (K52 : x.toInt = 3 → RR g RX9 cX9_worth 3 (some .int) "worth" d kc ks rk rn 52 lv st w Q) (K63 : x.toInt = 4 → RR g RX9 cX9_worth 3 (some .int) "worth" d kc ks rk rn 63 lv st w Q) (K68 : x.toInt = 5 → RR g RX9 cX9_worth 3 (some .int) "worth" d kc ks rk rn 68 lv st w Q) (KD : x.toInt ≠ 1 ∧ x.toInt ≠ 2 ∧ x.toInt ≠ 3 ∧ x.toInt ≠ 4 ∧ x.toInt ≠ 5 → RR g RX9 cX9_worth 3 (some .int) "worth" d kc ks rk rn 70 lv st w Q) : RR g RX9 cX9_worth 3 (some .int) "worth" d kc ks rk rn 13 lv (.int x :: st) w Q := by
  by_cases hin : 1 ≤ x.toInt ∧ x.toInt < 1 + (5 : Nat)
  · obtain ⟨k, hk, e⟩ := rng_cases 1 5 hin.1 hin.2
    have hk2 : k = 0 ∨ k = 1 ∨ k = 2 ∨ k = 3 ∨ k = 4 := by omega
    rcases hk2 with rfl | rfl | rfl | rfl | rfl
    · have e : x.toInt = 1 := by omega
      exact jr_tableIn 48 dX9_worth_13 (by omega) (by omega) (by rw [e]; rfl) (by decide) (K48 (by omega))
    · have e : x.toInt = 2 := by omega
      exact jr_tableIn 58 dX9_worth_13 (by omega) (by omega) (by rw [e]; rfl) (by decide) (K58 (by omega))
    · have e : x.toInt = 3 := by omega
      exact jr_tableIn 52 dX9_worth_13 (by omega) (by omega) (by rw [e]; rfl) (by decide) (K52 (by omega))
    · have e : x.toInt = 4 := by omega
      exact jr_tableIn 63 dX9_worth_13 (by omega) (by omega) (by rw [e]; rfl) (by decide) (K63 (by omega))
    · have e : x.toInt = 5 := by omega
      exact jr_tableIn 68 dX9_worth_13 (by omega) (by omega) (by rw [e]; rfl) (by decide) (K68 (by omega))
  · exact jr_tableOut 70 dX9_worth_13 (by omega) (by decide) (KD (by omega))
theorem swX9_isName_1 {g : Cx} {d kc ks rk rn : Nat} {lv : List (Option Value)} {st : List Value} {w : Wd} {Q : Option Value → Wd → Prop} {x : Int32} (K28 : x.toInt = 0 → RR g RX9 cX9_isName 2 (some .boolean) "isName" d kc ks rk rn 28 lv st w Q) (K52 : x.toInt = 1 → RR g RX9 cX9_isName 2 (some .boolean) "isName" d kc ks rk rn 52 lv st w Q) (KD : x.toInt ≠ 0 ∧ x.toInt ≠ 1 → RR g RX9 cX9_isName 2 (some .boolean) "isName" d kc ks rk rn 70 lv st w Q) : RR g RX9 cX9_isName 2 (some .boolean) "isName" d kc ks rk rn 1 lv (.int x :: st) w Q := by
  by_cases e0 : x.toInt = 0
  · exact jr_lookup (off := 27) 28 dX9_isName_1 (by decide) (by rw [e0]; decide) (by decide) (K28 (by omega))
  by_cases e1 : x.toInt = 1
  · exact jr_lookup (off := 51) 52 dX9_isName_1 (by decide) (by rw [e1]; decide) (by decide) (K52 (by omega))
  · exact jr_lookup (off := 69) 70 dX9_isName_1 (by decide) (by simp [Op.lookupswitch.offset, Ne.symm e0, Ne.symm e1]) (by decide) (KD (by omega))
theorem swX9_joined_1 {g : Cx} {d kc ks rk rn : Nat} {lv : List (Option Value)} {st : List Value} {w : Wd} {Q : Option Value → Wd → Prop} {x : Int32} (K183 : x.toInt = 38 → RR g RX9 cX9_joined 3 (some .int) "joined" d kc ks rk rn 183 lv st w Q) (K124 : x.toInt = 42 → RR g RX9 cX9_joined 3 (some .int) "joined" d kc ks rk rn 124 lv st w Q) (K116 : x.toInt = 43 → RR g RX9 cX9_joined 3 (some .int) "joined" d kc ks rk rn 116 lv st w Q) (K120 : x.toInt = 45 → RR g RX9 cX9_joined 3 (some .int) "joined" d kc ks rk rn 120 lv st w Q) (K128 : x.toInt = 47 → RR g RX9 cX9_joined 3 (some .int) "joined" d kc ks rk rn 128 lv st w Q) (K150 : x.toInt = 60 → RR g RX9 cX9_joined 3 (some .int) "joined" d kc ks rk rn 150 lv st w Q) (K172 : x.toInt = 61 → RR g RX9 cX9_joined 3 (some .int) "joined" d kc ks rk rn 172 lv st w Q) (K161 : x.toInt = 62 → RR g RX9 cX9_joined 3 (some .int) "joined" d kc ks rk rn 161 lv st w Q) (KD : x.toInt ≠ 38 ∧ x.toInt ≠ 42 ∧ x.toInt ≠ 43 ∧ x.toInt ≠ 45 ∧ x.toInt ≠ 47 ∧ x.toInt ≠ 60 ∧ x.toInt ≠ 61 ∧ x.toInt ≠ 62 → RR g RX9 cX9_joined 3 (some .int) "joined" d kc ks rk rn 197 lv st w Q) : RR g RX9 cX9_joined 3 (some .int) "joined" d kc ks rk rn 1 lv (.int x :: st) w Q := by
  by_cases hin : 38 ≤ x.toInt ∧ x.toInt < 38 + (25 : Nat)
  · obtain ⟨k, hk, e⟩ := rng_cases 38 25 hin.1 hin.2
    have hk2 : k = 0 ∨ k = 1 ∨ k = 2 ∨ k = 3 ∨ k = 4 ∨ k = 5 ∨ k = 6 ∨ k = 7 ∨ k = 8 ∨ k = 9 ∨ k = 10 ∨ k = 11 ∨ k = 12 ∨ k = 13 ∨ k = 14 ∨ k = 15 ∨ k = 16 ∨ k = 17 ∨ k = 18 ∨ k = 19 ∨ k = 20 ∨ k = 21 ∨ k = 22 ∨ k = 23 ∨ k = 24 := by omega
    rcases hk2 with rfl | rfl | rfl | rfl | rfl | rfl | rfl | rfl | rfl | rfl | rfl | rfl | rfl | rfl | rfl | rfl | rfl | rfl | rfl | rfl | rfl | rfl | rfl | rfl | rfl
    · have e : x.toInt = 38 := by omega
      exact jr_tableIn 183 dX9_joined_1 (by omega) (by omega) (by rw [e]; rfl) (by decide) (K183 (by omega))
    · have e : x.toInt = 39 := by omega
      exact jr_tableIn 197 dX9_joined_1 (by omega) (by omega) (by rw [e]; rfl) (by decide) (KD (by omega))
    · have e : x.toInt = 40 := by omega
      exact jr_tableIn 197 dX9_joined_1 (by omega) (by omega) (by rw [e]; rfl) (by decide) (KD (by omega))
    · have e : x.toInt = 41 := by omega
      exact jr_tableIn 197 dX9_joined_1 (by omega) (by omega) (by rw [e]; rfl) (by decide) (KD (by omega))
    · have e : x.toInt = 42 := by omega
      exact jr_tableIn 124 dX9_joined_1 (by omega) (by omega) (by rw [e]; rfl) (by decide) (K124 (by omega))
    · have e : x.toInt = 43 := by omega
      exact jr_tableIn 116 dX9_joined_1 (by omega) (by omega) (by rw [e]; rfl) (by decide) (K116 (by omega))
    · have e : x.toInt = 44 := by omega
      exact jr_tableIn 197 dX9_joined_1 (by omega) (by omega) (by rw [e]; rfl) (by decide) (KD (by omega))
    · have e : x.toInt = 45 := by omega
      exact jr_tableIn 120 dX9_joined_1 (by omega) (by omega) (by rw [e]; rfl) (by decide) (K120 (by omega))
    · have e : x.toInt = 46 := by omega
      exact jr_tableIn 197 dX9_joined_1 (by omega) (by omega) (by rw [e]; rfl) (by decide) (KD (by omega))
    · have e : x.toInt = 47 := by omega
      exact jr_tableIn 128 dX9_joined_1 (by omega) (by omega) (by rw [e]; rfl) (by decide) (K128 (by omega))
    · have e : x.toInt = 48 := by omega
      exact jr_tableIn 197 dX9_joined_1 (by omega) (by omega) (by rw [e]; rfl) (by decide) (KD (by omega))
    · have e : x.toInt = 49 := by omega
      exact jr_tableIn 197 dX9_joined_1 (by omega) (by omega) (by rw [e]; rfl) (by decide) (KD (by omega))
    · have e : x.toInt = 50 := by omega
      exact jr_tableIn 197 dX9_joined_1 (by omega) (by omega) (by rw [e]; rfl) (by decide) (KD (by omega))
    · have e : x.toInt = 51 := by omega
      exact jr_tableIn 197 dX9_joined_1 (by omega) (by omega) (by rw [e]; rfl) (by decide) (KD (by omega))
    · have e : x.toInt = 52 := by omega
      exact jr_tableIn 197 dX9_joined_1 (by omega) (by omega) (by rw [e]; rfl) (by decide) (KD (by omega))
    · have e : x.toInt = 53 := by omega
      exact jr_tableIn 197 dX9_joined_1 (by omega) (by omega) (by rw [e]; rfl) (by decide) (KD (by omega))
    · have e : x.toInt = 54 := by omega
      exact jr_tableIn 197 dX9_joined_1 (by omega) (by omega) (by rw [e]; rfl) (by decide) (KD (by omega))
    · have e : x.toInt = 55 := by omega
      exact jr_tableIn 197 dX9_joined_1 (by omega) (by omega) (by rw [e]; rfl) (by decide) (KD (by omega))
    · have e : x.toInt = 56 := by omega
      exact jr_tableIn 197 dX9_joined_1 (by omega) (by omega) (by rw [e]; rfl) (by decide) (KD (by omega))
    · have e : x.toInt = 57 := by omega
      exact jr_tableIn 197 dX9_joined_1 (by omega) (by omega) (by rw [e]; rfl) (by decide) (KD (by omega))
    · have e : x.toInt = 58 := by omega
      exact jr_tableIn 197 dX9_joined_1 (by omega) (by omega) (by rw [e]; rfl) (by decide) (KD (by omega))
    · have e : x.toInt = 59 := by omega
      exact jr_tableIn 197 dX9_joined_1 (by omega) (by omega) (by rw [e]; rfl) (by decide) (KD (by omega))
    · have e : x.toInt = 60 := by omega
      exact jr_tableIn 150 dX9_joined_1 (by omega) (by omega) (by rw [e]; rfl) (by decide) (K150 (by omega))
    · have e : x.toInt = 61 := by omega
      exact jr_tableIn 172 dX9_joined_1 (by omega) (by omega) (by rw [e]; rfl) (by decide) (K172 (by omega))
    · have e : x.toInt = 62 := by omega
      exact jr_tableIn 161 dX9_joined_1 (by omega) (by omega) (by rw [e]; rfl) (by decide) (K161 (by omega))
  · exact jr_tableOut 197 dX9_joined_1 (by omega) (by decide) (KD (by omega))
theorem swX9_count_1 {g : Cx} {d kc ks rk rn : Nat} {lv : List (Option Value)} {st : List Value} {w : Wd} {Q : Option Value → Wd → Prop} {x : Int32} (K48 : x.toInt = 0 → RR g RX9 cX9_count 2 (some .int) "count" d kc ks rk rn 48 lv st w Q) (K55 : x.toInt = 1 → RR g RX9 cX9_count 2 (some .int) "count" d kc ks rk rn 55 lv st w Q) (K62 : x.toInt = 2 → RR g RX9 cX9_count 2 (some .int) "count" d kc ks rk rn 62 lv st w Q) (K70 : x.toInt = 3 → RR g RX9 cX9_count 2 (some .int) "count" d kc ks rk rn 70 lv st w Q) (K78 : x.toInt = 4 → RR g RX9 cX9_count 2 (some .int) "count" d kc ks rk rn 78 lv st w Q) (K85 : x.toInt = 5 → RR g RX9 cX9_count 2 (some .int) "count" d kc ks rk rn 85 lv st w Q) (K90 : x.toInt = 6 → RR g RX9 cX9_count 2 (some .int) "count" d kc ks rk rn 90 lv st w Q) (K95 : x.toInt = 7 → RR g RX9 cX9_count 2 (some .int) "count" d kc ks rk rn 95 lv st w Q) (KD : x.toInt ≠ 0 ∧ x.toInt ≠ 1 ∧ x.toInt ≠ 2 ∧ x.toInt ≠ 3 ∧ x.toInt ≠ 4 ∧ x.toInt ≠ 5 ∧ x.toInt ≠ 6 ∧ x.toInt ≠ 7 → RR g RX9 cX9_count 2 (some .int) "count" d kc ks rk rn 103 lv st w Q) : RR g RX9 cX9_count 2 (some .int) "count" d kc ks rk rn 1 lv (.int x :: st) w Q := by
  by_cases hin : 0 ≤ x.toInt ∧ x.toInt < 0 + (8 : Nat)
  · obtain ⟨k, hk, e⟩ := rng_cases 0 8 hin.1 hin.2
    have hk2 : k = 0 ∨ k = 1 ∨ k = 2 ∨ k = 3 ∨ k = 4 ∨ k = 5 ∨ k = 6 ∨ k = 7 := by omega
    rcases hk2 with rfl | rfl | rfl | rfl | rfl | rfl | rfl | rfl
    · have e : x.toInt = 0 := by omega
      exact jr_tableIn 48 dX9_count_1 (by omega) (by omega) (by rw [e]; rfl) (by decide) (K48 (by omega))
    · have e : x.toInt = 1 := by omega
      exact jr_tableIn 55 dX9_count_1 (by omega) (by omega) (by rw [e]; rfl) (by decide) (K55 (by omega))
    · have e : x.toInt = 2 := by omega
      exact jr_tableIn 62 dX9_count_1 (by omega) (by omega) (by rw [e]; rfl) (by decide) (K62 (by omega))
    · have e : x.toInt = 3 := by omega
      exact jr_tableIn 70 dX9_count_1 (by omega) (by omega) (by rw [e]; rfl) (by decide) (K70 (by omega))
    · have e : x.toInt = 4 := by omega
      exact jr_tableIn 78 dX9_count_1 (by omega) (by omega) (by rw [e]; rfl) (by decide) (K78 (by omega))
    · have e : x.toInt = 5 := by omega
      exact jr_tableIn 85 dX9_count_1 (by omega) (by omega) (by rw [e]; rfl) (by decide) (K85 (by omega))
    · have e : x.toInt = 6 := by omega
      exact jr_tableIn 90 dX9_count_1 (by omega) (by omega) (by rw [e]; rfl) (by decide) (K90 (by omega))
    · have e : x.toInt = 7 := by omega
      exact jr_tableIn 95 dX9_count_1 (by omega) (by omega) (by rw [e]; rfl) (by decide) (K95 (by omega))
  · exact jr_tableOut 103 dX9_count_1 (by omega) (by decide) (KD (by omega))
theorem swL_law_33 {g : Cx} {d kc ks rk rn : Nat} {lv : List (Option Value)} {st : List Value} {w : Wd} {Q : Option Value → Wd → Prop} {x : Int32} (K224 : x.toInt = 0 → RR g RL cL_law 4 (some .boolean) "law" d kc ks rk rn 224 lv st w Q) (K267 : x.toInt = 1 → RR g RL cL_law 4 (some .boolean) "law" d kc ks rk rn 267 lv st w Q) (K300 : x.toInt = 2 → RR g RL cL_law 4 (some .boolean) "law" d kc ks rk rn 300 lv st w Q) (K333 : x.toInt = 3 → RR g RL cL_law 4 (some .boolean) "law" d kc ks rk rn 333 lv st w Q) (K366 : x.toInt = 4 → RR g RL cL_law 4 (some .boolean) "law" d kc ks rk rn 366 lv st w Q) (K409 : x.toInt = 5 → RR g RL cL_law 4 (some .boolean) "law" d kc ks rk rn 409 lv st w Q) (K442 : x.toInt = 6 → RR g RL cL_law 4 (some .boolean) "law" d kc ks rk rn 442 lv st w Q) (K465 : x.toInt = 7 → RR g RL cL_law 4 (some .boolean) "law" d kc ks rk rn 465 lv st w Q) (K498 : x.toInt = 8 → RR g RL cL_law 4 (some .boolean) "law" d kc ks rk rn 498 lv st w Q) (K521 : x.toInt = 9 → RR g RL cL_law 4 (some .boolean) "law" d kc ks rk rn 521 lv st w Q) (K544 : x.toInt = 10 → RR g RL cL_law 4 (some .boolean) "law" d kc ks rk rn 544 lv st w Q) (K567 : x.toInt = 11 → RR g RL cL_law 4 (some .boolean) "law" d kc ks rk rn 567 lv st w Q) (K590 : x.toInt = 12 → RR g RL cL_law 4 (some .boolean) "law" d kc ks rk rn 590 lv st w Q) (K613 : x.toInt = 13 → RR g RL cL_law 4 (some .boolean) "law" d kc ks rk rn 613 lv st w Q) (K636 : x.toInt = 14 → RR g RL cL_law 4 (some .boolean) "law" d kc ks rk rn 636 lv st w Q) (K659 : x.toInt = 15 → RR g RL cL_law 4 (some .boolean) "law" d kc ks rk rn 659 lv st w Q) (K672 : x.toInt = 16 → RR g RL cL_law 4 (some .boolean) "law" d kc ks rk rn 672 lv st w Q) (K705 : x.toInt = 17 → RR g RL cL_law 4 (some .boolean) "law" d kc ks rk rn 705 lv st w Q) (K728 : x.toInt = 18 → RR g RL cL_law 4 (some .boolean) "law" d kc ks rk rn 728 lv st w Q) (K761 : x.toInt = 19 → RR g RL cL_law 4 (some .boolean) "law" d kc ks rk rn 761 lv st w Q) (K774 : x.toInt = 20 → RR g RL cL_law 4 (some .boolean) "law" d kc ks rk rn 774 lv st w Q) (K807 : x.toInt = 21 → RR g RL cL_law 4 (some .boolean) "law" d kc ks rk rn 807 lv st w Q) (K840 : x.toInt = 22 → RR g RL cL_law 4 (some .boolean) "law" d kc ks rk rn 840 lv st w Q) (K853 : x.toInt = 23 → RR g RL cL_law 4 (some .boolean) "law" d kc ks rk rn 853 lv st w Q) (K866 : x.toInt = 24 → RR g RL cL_law 4 (some .boolean) "law" d kc ks rk rn 866 lv st w Q) (K889 : x.toInt = 25 → RR g RL cL_law 4 (some .boolean) "law" d kc ks rk rn 889 lv st w Q) (K932 : x.toInt = 26 → RR g RL cL_law 4 (some .boolean) "law" d kc ks rk rn 932 lv st w Q) (K955 : x.toInt = 27 → RR g RL cL_law 4 (some .boolean) "law" d kc ks rk rn 955 lv st w Q) (K968 : x.toInt = 28 → RR g RL cL_law 4 (some .boolean) "law" d kc ks rk rn 968 lv st w Q) (K1001 : x.toInt = 29 → RR g RL cL_law 4 (some .boolean) "law" d kc ks rk rn 1001 lv st w Q) (K1024 : x.toInt = 30 → RR g RL cL_law 4 (some .boolean) "law" d kc ks rk rn 1024 lv st w Q) (K1067 : x.toInt = 31 → RR g RL cL_law 4 (some .boolean) "law" d kc ks rk rn 1067 lv st w Q) (K1110 : x.toInt = 32 → RR g RL cL_law 4 (some .boolean) "law" d kc ks rk rn 1110 lv st w Q) (K1133 : x.toInt = 33 → RR g RL cL_law 4 (some .boolean) "law" d kc ks rk rn 1133 lv st w Q) (K1156 : x.toInt = 34 → RR g RL cL_law 4 (some .boolean) "law" d kc ks rk rn 1156 lv st w Q) (K1219 : x.toInt = 35 → RR g RL cL_law 4 (some .boolean) "law" d kc ks rk rn 1219 lv st w Q) (K1262 : x.toInt = 36 → RR g RL cL_law 4 (some .boolean) "law" d kc ks rk rn 1262 lv st w Q) (K1295 : x.toInt = 37 → RR g RL cL_law 4 (some .boolean) "law" d kc ks rk rn 1295 lv st w Q) (K1328 : x.toInt = 38 → RR g RL cL_law 4 (some .boolean) "law" d kc ks rk rn 1328 lv st w Q) (K1361 : x.toInt = 39 → RR g RL cL_law 4 (some .boolean) "law" d kc ks rk rn 1361 lv st w Q) (K1384 : x.toInt = 40 → RR g RL cL_law 4 (some .boolean) "law" d kc ks rk rn 1384 lv st w Q) (K1407 : x.toInt = 41 → RR g RL cL_law 4 (some .boolean) "law" d kc ks rk rn 1407 lv st w Q) (K1420 : x.toInt = 42 → RR g RL cL_law 4 (some .boolean) "law" d kc ks rk rn 1420 lv st w Q) (K1433 : x.toInt = 43 → RR g RL cL_law 4 (some .boolean) "law" d kc ks rk rn 1433 lv st w Q) (KD : x.toInt ≠ 0 ∧ x.toInt ≠ 1 ∧ x.toInt ≠ 2 ∧ x.toInt ≠ 3 ∧ x.toInt ≠ 4 ∧ x.toInt ≠ 5 ∧ x.toInt ≠ 6 ∧ x.toInt ≠ 7 ∧ x.toInt ≠ 8 ∧ x.toInt ≠ 9 ∧ x.toInt ≠ 10 ∧ x.toInt ≠ 11 ∧ x.toInt ≠ 12 ∧ x.toInt ≠ 13 ∧ x.toInt ≠ 14 ∧ x.toInt ≠ 15 ∧ x.toInt ≠ 16 ∧ x.toInt ≠ 17 ∧ x.toInt ≠ 18 ∧ x.toInt ≠ 19 ∧ x.toInt ≠ 20 ∧ x.toInt ≠ 21 ∧ x.toInt ≠ 22 ∧ x.toInt ≠ 23 ∧ x.toInt ≠ 24 ∧ x.toInt ≠ 25 ∧ x.toInt ≠ 26 ∧ x.toInt ≠ 27 ∧ x.toInt ≠ 28 ∧ x.toInt ≠ 29 ∧ x.toInt ≠ 30 ∧ x.toInt ≠ 31 ∧ x.toInt ≠ 32 ∧ x.toInt ≠ 33 ∧ x.toInt ≠ 34 ∧ x.toInt ≠ 35 ∧ x.toInt ≠ 36 ∧ x.toInt ≠ 37 ∧ x.toInt ≠ 38 ∧ x.toInt ≠ 39 ∧ x.toInt ≠ 40 ∧ x.toInt ≠ 41 ∧ x.toInt ≠ 42 ∧ x.toInt ≠ 43 → RR g RL cL_law 4 (some .boolean) "law" d kc ks rk rn 1456 lv st w Q) : RR g RL cL_law 4 (some .boolean) "law" d kc ks rk rn 33 lv (.int x :: st) w Q := by
  by_cases hin : 0 ≤ x.toInt ∧ x.toInt < 0 + (44 : Nat)
  · obtain ⟨k, hk, e⟩ := rng_cases 0 44 hin.1 hin.2
    have hk2 : k = 0 ∨ k = 1 ∨ k = 2 ∨ k = 3 ∨ k = 4 ∨ k = 5 ∨ k = 6 ∨ k = 7 ∨ k = 8 ∨ k = 9 ∨ k = 10 ∨ k = 11 ∨ k = 12 ∨ k = 13 ∨ k = 14 ∨ k = 15 ∨ k = 16 ∨ k = 17 ∨ k = 18 ∨ k = 19 ∨ k = 20 ∨ k = 21 ∨ k = 22 ∨ k = 23 ∨ k = 24 ∨ k = 25 ∨ k = 26 ∨ k = 27 ∨ k = 28 ∨ k = 29 ∨ k = 30 ∨ k = 31 ∨ k = 32 ∨ k = 33 ∨ k = 34 ∨ k = 35 ∨ k = 36 ∨ k = 37 ∨ k = 38 ∨ k = 39 ∨ k = 40 ∨ k = 41 ∨ k = 42 ∨ k = 43 := by omega
    rcases hk2 with rfl | rfl | rfl | rfl | rfl | rfl | rfl | rfl | rfl | rfl | rfl | rfl | rfl | rfl | rfl | rfl | rfl | rfl | rfl | rfl | rfl | rfl | rfl | rfl | rfl | rfl | rfl | rfl | rfl | rfl | rfl | rfl | rfl | rfl | rfl | rfl | rfl | rfl | rfl | rfl | rfl | rfl | rfl | rfl
    · have e : x.toInt = 0 := by omega
      exact jr_tableIn 224 dL_law_33 (by omega) (by omega) (by rw [e]; rfl) (by decide) (K224 (by omega))
    · have e : x.toInt = 1 := by omega
      exact jr_tableIn 267 dL_law_33 (by omega) (by omega) (by rw [e]; rfl) (by decide) (K267 (by omega))
    · have e : x.toInt = 2 := by omega
      exact jr_tableIn 300 dL_law_33 (by omega) (by omega) (by rw [e]; rfl) (by decide) (K300 (by omega))
    · have e : x.toInt = 3 := by omega
      exact jr_tableIn 333 dL_law_33 (by omega) (by omega) (by rw [e]; rfl) (by decide) (K333 (by omega))
    · have e : x.toInt = 4 := by omega
      exact jr_tableIn 366 dL_law_33 (by omega) (by omega) (by rw [e]; rfl) (by decide) (K366 (by omega))
    · have e : x.toInt = 5 := by omega
      exact jr_tableIn 409 dL_law_33 (by omega) (by omega) (by rw [e]; rfl) (by decide) (K409 (by omega))
    · have e : x.toInt = 6 := by omega
      exact jr_tableIn 442 dL_law_33 (by omega) (by omega) (by rw [e]; rfl) (by decide) (K442 (by omega))
    · have e : x.toInt = 7 := by omega
      exact jr_tableIn 465 dL_law_33 (by omega) (by omega) (by rw [e]; rfl) (by decide) (K465 (by omega))
    · have e : x.toInt = 8 := by omega
      exact jr_tableIn 498 dL_law_33 (by omega) (by omega) (by rw [e]; rfl) (by decide) (K498 (by omega))
    · have e : x.toInt = 9 := by omega
      exact jr_tableIn 521 dL_law_33 (by omega) (by omega) (by rw [e]; rfl) (by decide) (K521 (by omega))
    · have e : x.toInt = 10 := by omega
      exact jr_tableIn 544 dL_law_33 (by omega) (by omega) (by rw [e]; rfl) (by decide) (K544 (by omega))
    · have e : x.toInt = 11 := by omega
      exact jr_tableIn 567 dL_law_33 (by omega) (by omega) (by rw [e]; rfl) (by decide) (K567 (by omega))
    · have e : x.toInt = 12 := by omega
      exact jr_tableIn 590 dL_law_33 (by omega) (by omega) (by rw [e]; rfl) (by decide) (K590 (by omega))
    · have e : x.toInt = 13 := by omega
      exact jr_tableIn 613 dL_law_33 (by omega) (by omega) (by rw [e]; rfl) (by decide) (K613 (by omega))
    · have e : x.toInt = 14 := by omega
      exact jr_tableIn 636 dL_law_33 (by omega) (by omega) (by rw [e]; rfl) (by decide) (K636 (by omega))
    · have e : x.toInt = 15 := by omega
      exact jr_tableIn 659 dL_law_33 (by omega) (by omega) (by rw [e]; rfl) (by decide) (K659 (by omega))
    · have e : x.toInt = 16 := by omega
      exact jr_tableIn 672 dL_law_33 (by omega) (by omega) (by rw [e]; rfl) (by decide) (K672 (by omega))
    · have e : x.toInt = 17 := by omega
      exact jr_tableIn 705 dL_law_33 (by omega) (by omega) (by rw [e]; rfl) (by decide) (K705 (by omega))
    · have e : x.toInt = 18 := by omega
      exact jr_tableIn 728 dL_law_33 (by omega) (by omega) (by rw [e]; rfl) (by decide) (K728 (by omega))
    · have e : x.toInt = 19 := by omega
      exact jr_tableIn 761 dL_law_33 (by omega) (by omega) (by rw [e]; rfl) (by decide) (K761 (by omega))
    · have e : x.toInt = 20 := by omega
      exact jr_tableIn 774 dL_law_33 (by omega) (by omega) (by rw [e]; rfl) (by decide) (K774 (by omega))
    · have e : x.toInt = 21 := by omega
      exact jr_tableIn 807 dL_law_33 (by omega) (by omega) (by rw [e]; rfl) (by decide) (K807 (by omega))
    · have e : x.toInt = 22 := by omega
      exact jr_tableIn 840 dL_law_33 (by omega) (by omega) (by rw [e]; rfl) (by decide) (K840 (by omega))
    · have e : x.toInt = 23 := by omega
      exact jr_tableIn 853 dL_law_33 (by omega) (by omega) (by rw [e]; rfl) (by decide) (K853 (by omega))
    · have e : x.toInt = 24 := by omega
      exact jr_tableIn 866 dL_law_33 (by omega) (by omega) (by rw [e]; rfl) (by decide) (K866 (by omega))
    · have e : x.toInt = 25 := by omega
      exact jr_tableIn 889 dL_law_33 (by omega) (by omega) (by rw [e]; rfl) (by decide) (K889 (by omega))
    · have e : x.toInt = 26 := by omega
      exact jr_tableIn 932 dL_law_33 (by omega) (by omega) (by rw [e]; rfl) (by decide) (K932 (by omega))
    · have e : x.toInt = 27 := by omega
      exact jr_tableIn 955 dL_law_33 (by omega) (by omega) (by rw [e]; rfl) (by decide) (K955 (by omega))
    · have e : x.toInt = 28 := by omega
      exact jr_tableIn 968 dL_law_33 (by omega) (by omega) (by rw [e]; rfl) (by decide) (K968 (by omega))
    · have e : x.toInt = 29 := by omega
      exact jr_tableIn 1001 dL_law_33 (by omega) (by omega) (by rw [e]; rfl) (by decide) (K1001 (by omega))
    · have e : x.toInt = 30 := by omega
      exact jr_tableIn 1024 dL_law_33 (by omega) (by omega) (by rw [e]; rfl) (by decide) (K1024 (by omega))
    · have e : x.toInt = 31 := by omega
      exact jr_tableIn 1067 dL_law_33 (by omega) (by omega) (by rw [e]; rfl) (by decide) (K1067 (by omega))
    · have e : x.toInt = 32 := by omega
      exact jr_tableIn 1110 dL_law_33 (by omega) (by omega) (by rw [e]; rfl) (by decide) (K1110 (by omega))
    · have e : x.toInt = 33 := by omega
      exact jr_tableIn 1133 dL_law_33 (by omega) (by omega) (by rw [e]; rfl) (by decide) (K1133 (by omega))
    · have e : x.toInt = 34 := by omega
      exact jr_tableIn 1156 dL_law_33 (by omega) (by omega) (by rw [e]; rfl) (by decide) (K1156 (by omega))
    · have e : x.toInt = 35 := by omega
      exact jr_tableIn 1219 dL_law_33 (by omega) (by omega) (by rw [e]; rfl) (by decide) (K1219 (by omega))
    · have e : x.toInt = 36 := by omega
      exact jr_tableIn 1262 dL_law_33 (by omega) (by omega) (by rw [e]; rfl) (by decide) (K1262 (by omega))
    · have e : x.toInt = 37 := by omega
      exact jr_tableIn 1295 dL_law_33 (by omega) (by omega) (by rw [e]; rfl) (by decide) (K1295 (by omega))
    · have e : x.toInt = 38 := by omega
      exact jr_tableIn 1328 dL_law_33 (by omega) (by omega) (by rw [e]; rfl) (by decide) (K1328 (by omega))
    · have e : x.toInt = 39 := by omega
      exact jr_tableIn 1361 dL_law_33 (by omega) (by omega) (by rw [e]; rfl) (by decide) (K1361 (by omega))
    · have e : x.toInt = 40 := by omega
      exact jr_tableIn 1384 dL_law_33 (by omega) (by omega) (by rw [e]; rfl) (by decide) (K1384 (by omega))
    · have e : x.toInt = 41 := by omega
      exact jr_tableIn 1407 dL_law_33 (by omega) (by omega) (by rw [e]; rfl) (by decide) (K1407 (by omega))
    · have e : x.toInt = 42 := by omega
      exact jr_tableIn 1420 dL_law_33 (by omega) (by omega) (by rw [e]; rfl) (by decide) (K1420 (by omega))
    · have e : x.toInt = 43 := by omega
      exact jr_tableIn 1433 dL_law_33 (by omega) (by omega) (by rw [e]; rfl) (by decide) (K1433 (by omega))
  · exact jr_tableOut 1456 dL_law_33 (by omega) (by decide) (KD (by omega))
