-- the law's loop
theorem law_sub {L : Nat} (hL : L ≤ 3072) : (nI L - 6).toInt = (L : Int) - 6 := pk_sub_toInt (b := 6) (by omega) (by decide)
section
variable {g : Cx} {p : Program} {e : Env} {s : State} {m : MethodId} {below : List Frame} {meth : Method} {c : Code} {b L : Nat} {xs : Nat → Int32} {rk rn : Nat} {w : Wd}
theorem law_head {i : Nat} (hX : LX g p s m meth c b L xs) (hL : L ≤ 3072) (hi : i ≤ 3078) (K : i + 6 ≤ L → LR g p e s m below meth c b rk rn 27 (lvL g b i) [] w) : LR g p e s m below meth c b rk rn 18 (lvL g b i) [] w := by
  refine jl_iload_n hX dL_law_18 rfl ?_
  refine jl_aload_n hX dL_law_19 rfl ?_
  refine jl_slen hX dL_law_20 ?_
  refine jl_bipush 6 hX dL_law_21 (by decide) ?_
  refine jl_isub hX dL_law_23 ?_
  refine jl_icmp_gt 1462 hX dL_law_24 (by decide) (fun _ => ?_) (fun q => K ?_)
  · refine jl_iconst 1 hX dL_law_1462 (by decide) ?_
    exact jl_end hX dL_law_1463
  · rw [Int32.lt_iff_toInt_lt, law_sub hL, nI_toInt (by omega)] at q
    omega
theorem law_onward {i n : Nat} (hX : LX g p s m meth c b L xs) (hr : 3 * n ≤ rk ∧ 200 * n ≤ rn) (K : LR g p e s m below meth c b (3 * n) (200 * n) 18 (lvL g b (i + 6)) [] w) : LR g p e s m below meth c b rk rn 1456 (lvL g b i) [] w := by
  refine jl_iinc (nI (i + 6)) hX dL_law_1456 (k := 3) rfl (nI_add i 6) (by decide) (fun q h => by cases h; rfl) ?_
  refine jl_goto 18 hX dL_law_1459 (by decide) ?_
  exact jl_mono hr.1 hr.2 K
theorem law_body {i : Nat} (hX : LX g p s m meth c b L xs) (hL : L ≤ 3072) (hi : i + 6 ≤ L) (hm : 3 ≤ rk ∧ 200 ≤ rn) (h : Rel w) (KI : ∀ w', Rel w' → LR g p e s m below meth c b (rk - 3) (rn - 200) 1456 (lvL g b i) [] w') : LR g p e s m below meth c b rk rn 27 (lvL g b i) [] w := by
  refine jl_aload_n hX dL_law_27 rfl ?_
  refine jl_iload_n hX dL_law_28 rfl ?_
  refine jl_sld (i := i) hX hL rfl (by omega) dL_law_29 ?_
  refine jl_bipush 63 hX dL_law_30 (by decide) ?_
  refine jl_iand hX dL_law_32 ?_
  refine jl_switch hX (fun _ => law_clock hX hL hi hm h KI) (fun _ => law_told hX hL hi hm h KI) (fun _ => law_as hX hL hi hm h KI) (fun _ => law_turns hX hL hi hm h KI) (fun _ => law_set hX hL hi hm h KI) (fun _ => law_strokes hX hL hi hm h KI) (fun _ => law_total hX hL hi hm h KI) (fun _ => law_ear hX hL hi hm h KI) (fun _ => law_deal hX hL hi hm h KI) (fun _ => law_seed hX hL hi hm h KI) (fun _ => law_minutes hX hL hi hm h KI) (fun _ => law_bed hX hL hi hm h KI) (fun _ => law_note hX hL hi hm h KI) (fun _ => law_fits hX hL hi hm h KI) (fun _ => law_may hX hL hi hm h KI) (fun _ => law_next hX hL hi hm h KI) (fun _ => law_parts hX hL hi hm h KI) (fun _ => law_astray hX hL hi hm h KI) (fun _ => law_right hX hL hi hm h KI) (fun _ => law_telling hX hL hi hm h KI) (fun _ => law_like hX hL hi hm h KI) (fun _ => law_behind hX hL hi hm h KI) (fun _ => law_listen hX hL hi hm h KI) (fun _ => law_fee hX hL hi hm h KI) (fun _ => law_fine hX hL hi hm h KI) (fun _ => law_feed hX hL hi hm h KI) (fun _ => law_trim hX hL hi hm h KI) (fun _ => law_text hX hL hi hm h KI) (fun _ => law_textTold hX hL hi hm h KI) (fun _ => law_why hX hL hi hm h KI) (fun _ => law_sheet hX hL hi hm h KI) (fun _ => law_mark hX hL hi hm h KI) (fun _ => law_pour hX hL hi hm h KI) (fun _ => law_reads hX hL hi hm h KI) (fun _ => law_copy hX hL hi hm h KI) (fun _ => law_lay hX hL hi hm h KI) (fun _ => law_ask hX hL hi hm h KI) (fun _ => law_item hX hL hi hm h KI) (fun _ => law_rest hX hL hi hm h KI) (fun _ => law_tell hX hL hi hm h KI) (fun _ => law_check hX hL hi hm h KI) (fun _ => law_keep hX hL hi hm h KI) (fun _ => law_back hX hL hi hm h KI) (fun _ => law_count hX hL hi hm h KI) (fun _ => jl_mono (Nat.sub_le _ _) (Nat.sub_le _ _) (KI w h))
theorem law_loop (hX : LX g p s m meth c b L xs) (hL : L ≤ 3072) : ∀ (n i : Nat) (w : Wd), L < i + 6 * n + 6 → i ≤ 3078 → Rel w → LR g p e s m below meth c b (3 * n) (200 * n) 18 (lvL g b i) [] w
  | 0, i, w, h1, h2, h => law_head hX hL h2 (fun q => absurd h1 (by omega))
  | n + 1, i, w, h1, h2, h => law_head hX hL h2 (fun q => law_body hX hL q (by omega) h (fun w' h' => law_onward (n := n) hX (by omega) (law_loop hX hL n (i + 6) w' (by omega) (by omega) h')))
end
