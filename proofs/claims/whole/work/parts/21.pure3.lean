theorem upd_uu (f : Nat → Int32) (k : Nat) (x y : Int32) : upd (upd f k x) k y = upd f k y := by
  funext j
  by_cases h : j = k
  · rw [h, pk_us, pk_us]
  · rw [pk_un h, pk_un h, pk_un h]
theorem upd_id (f : Nat → Int32) (k : Nat) : upd f k (f k) = f := by
  funext j
  by_cases h : j = k
  · rw [h, pk_us]
  · rw [pk_un h]
theorem upd_X (s : Nat → Int32) {i : Nat} (hi : i < 40) (h1 : i ≠ 1) (v : Int32) : SameX s (upd s i v) := ⟨pk_un (by omega), fun t _ j h2 _ => pk_un (by omega)⟩
/-- one field of one clock becomes another small number -/
theorem Gd_ck {s : Nat → Int32} (hG : Gd s) {k j n : Nat} (hk : k < 6) (hj : j < 3) (hn : n ≤ (if j = 0 then 5 else if j = 1 then 59 else 9)) : Gd (upd s (10 + 3 * k + j) (nI n)) := by
  obtain ⟨h0, h1, h2, h6, h7, h8, hC, hN, hX⟩ := hG
  have o : ∀ i, i ≠ 10 + 3 * k + j → upd s (10 + 3 * k + j) (nI n) i = s i := fun i hi => pk_un hi
  have hx := upd_X s (i := 10 + 3 * k + j) (by omega) (by omega) (nI n)
  have at' : ∀ m, n ≤ m → m < 2 ^ 31 → Nb (upd s (10 + 3 * k + j) (nI n)) (10 + 3 * k + j) m := fun m h1 h2 => Nb.of pk_us h1 h2
  refine ⟨Nb_congr (o _ (by omega)) h0, Nb_congr (o _ (by omega)) h1, Nb_congr (o _ (by omega)) h2, Nb_congr (o _ (by omega)) h6, Nb_congr (o _ (by omega)) h7, Nb_congr (o _ (by omega)) h8, ?_, fun i hi => Nb_congr (o _ (by omega)) (hN i hi), fun t ht => ?_⟩
  · intro q hq
    obtain ⟨c0, c1, c2⟩ := hC q hq
    have hj3 : j = 0 ∨ j = 1 ∨ j = 2 := by omega
    refine ⟨?_, ?_, ?_⟩
    · by_cases e : 10 + 3 * q + 0 = 10 + 3 * k + j
      · rw [e]
        rw [if_pos (by omega)] at hn
        exact at' _ hn (by decide)
      · exact Nb_congr (o _ e) c0
    · by_cases e : 10 + 3 * q + 1 = 10 + 3 * k + j
      · rw [e]
        rw [if_neg (by omega), if_pos (by omega)] at hn
        exact at' _ hn (by decide)
      · exact Nb_congr (o _ e) c1
    · by_cases e : 10 + 3 * q + 2 = 10 + 3 * k + j
      · rw [e]
        rw [if_neg (by omega), if_neg (by omega)] at hn
        exact at' _ hn (by decide)
      · exact Nb_congr (o _ e) c2
  · rw [sN_congr (o 1 (by omega))] at ht
    exact (hx.2 t ht).ok (hX t ht)
theorem fitB_congr {s s' : Nat → Int32} {T T' : Nat → Nat} (hT : ∀ t, t < 720 → T' t = T t) (h6 : s' 6 = s 6) (h7 : s' 7 = s 7) (t : Nat) : ∀ n, (∀ j, j < n → s' (28 + j) = s (28 + j)) → fitB s' T' t n = fitB s T t n
  | 0, _ => rfl
  | n + 1, h => by
    simp only [fitB]
    rw [fitB_congr hT h6 h7 t n (fun j hj => h j (by omega)), sN_congr h6, sN_congr h7, sN_congr (h n (by omega)), hT _ (Nat.mod_lt _ (by decide))]
theorem fitP_congr {s s' : Nat → Int32} {T T' : Nat → Nat} (hT : ∀ t, t < 720 → T' t = T t) (h6 : s' 6 = s 6) (h7 : s' 7 = s 7) (h8 : s' 8 = s 8) (h12 : sN s 8 ≤ 12) (hn : ∀ j, j < 12 → s' (28 + j) = s (28 + j)) (t : Nat) : fitP s' T' t = fitP s T t := by
  unfold fitP
  rw [sN_congr h8]
  exact fitB_congr hT h6 h7 t _ (fun j hj => hn j (by omega))
theorem cntB_congr {p q : Nat → Bool} : ∀ n, (∀ t, t < n → p t = q t) → cntB p n = cntB q n
  | 0, _ => rfl
  | n + 1, h => by
    simp only [cntB]
    rw [cntB_congr n (fun t ht => h t (by omega)), h n (by omega)]
def T_in (s : Nat → Int32) (k o t : Nat) : Nat := T_out s k t + stkW s (sN s (10 + 3 * k + 0)) o (sN s (10 + 3 * k + 2)) t
/-- how late a clock had best be taken to be, of the first n: how late, how many times fit; -1, 0 at first -/
def rtF (s : Nat → Int32) (k : Nat) : Nat → Int32 × Int32
  | 0 => (-1, 0)
  | o + 1 => if 0 < (nI (cntB (fitP s (T_in s k o)) 720)).toInt ∧ ((rtF s k o).1.toInt < 0 ∨ (nI (cntB (fitP s (T_in s k o)) 720)).toInt < (rtF s k o).2.toInt) then (nI o, nI (cntB (fitP s (T_in s k o)) 720)) else rtF s k o
def F_right (s : Nat → Int32) (c x : Int32) : Int32 :=
  if isC s c ∧ inR x 0 1 then (if (rtF s c.toNatClampNeg 60).1.toInt < 0 then -1000000005 else if x.toInt = 0 then (rtF s c.toNatClampNeg 60).1 else (rtF s c.toNatClampNeg 60).2) else -1000000001
theorem stk_off {s : Nat → Int32} (hG : Gd s) {k o : Nat} (hk : k < 6) (ho : o < 60) (t : Nat) : stkF (upd s (10 + 3 * k + 1) (nI o)) k t = stkW s (sN s (10 + 3 * k + 0)) o (sN s (10 + 3 * k + 2)) t := by
  unfold stkF
  rw [sN_congr (s := s) (i := 10 + 3 * k + 0) (pk_un (by omega)), sN_congr (s := s) (i := 10 + 3 * k + 2) (pk_un (by omega)), sN_of (s := upd s (10 + 3 * k + 1) (nI o)) (i := 10 + 3 * k + 1) pk_us (by omega)]
  exact (upd_X s (by omega) (by omega) _).stk hG.2.2.2.2.2.2.2.2 hG.2.1.2 _ _ _ _
theorem stkW_le (s : Nat → Int32) (kd o tn t : Nat) : stkW s kd o tn t ≤ 16 := sk_le (ow_lt _ _)
def lbR (s r : Nat → Int32) : Nat → Int32 := fun j => if j < 40 then r j else s j
theorem lbR_go (s : Nat → Int32) (n : Nat) {r : Nat → Int32} (hr : ∀ j, j < 40 → r j = s j) : lbR (goM s n) r = s := by
  funext j
  unfold lbR
  by_cases h : j < 40
  · rw [if_pos h, hr j h]
  · rw [if_neg h, goM_o s (by omega) (by omega) (by omega) (by omega) (by omega) (by omega) (by omega) n]
def F_behind (s : Nat → Int32) (n x : Int32) : Int32 :=
  if inR n 0 100 ∧ inR x 0 3 then (if x.toInt < 3 then goM s n.toNatClampNeg (3 + x.toNatClampNeg) else nI (cntB (fitP (goM s n.toNatClampNeg) (totT s)) 720)) else -1000000001
def lsP (s : Nat → Int32) (n : Nat) : Bool := decide (sureX (hrsB (fitP (goM s n) (totT s)) 720))
def F_listen (s : Nat → Int32) : Int32 := if fstB (lsP s) 61 < 61 then nI (fstB (lsP s) 61) else -1000000005
def F_fee (s : Nat → Int32) : Int32 := if (cntF s 1 (sN s 1)).toInt < 0 then s 3 else evF s (cntF s 1 (sN s 1)).toNatClampNeg (nmF (s 3) (s 4))
def F_fine (s : Nat → Int32) (c : Int32) : Int32 := if isC s c then (if (cntF s 2 (sN s 1)).toInt < 0 then s (10 + 3 * c.toNatClampNeg + 1) else evF s (cntF s 2 (sN s 1)).toNatClampNeg (nmI (s (10 + 3 * c.toNatClampNeg + 1)) (s (10 + 3 * c.toNatClampNeg + 2)))) else -1000000001
def F_why (s : Nat → Int32) (x : Int32) : Int32 := if inR x 0 2 then (if (cntF s x (sN s 1)).toInt < 0 then -1000000005 else cntF s x (sN s 1)) else -1000000001
def F_textTold (s : Nat → Int32) (t x : Int32) : Int32 := if (0 ≤ t.toInt ∧ t.toInt < sN s 1) ∧ inR x 0 1 then s (40 + 200 * t.toNatClampNeg + x.toNatClampNeg) else -1000000001
