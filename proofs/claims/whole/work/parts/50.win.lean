-- telling: how long like minutes run, in both tellings
def wnE (T : Nat → Nat) (n u v : Nat) : Prop := ∀ e, e < n → T ((u + 720 - e) % 720) = T ((v + 720 - e) % 720)
/-- n minutes leave the hour in doubt -/
def dbt (T : Nat → Nat) (n : Nat) : Prop := ∃ u v, u < 720 ∧ v < 720 ∧ ¬ u / 60 = v / 60 ∧ wnE T n u v
theorem tlI_run (T : Nat → Nat) (ap m0 : Nat) : ∀ i n, n ≤ (tlI T ap m0 i).1 ↔ (n ≤ i ∧ ∀ e, e < n → T ((660 + i - 1 - e) % 720) = T ((660 + i - 1 - e - ap) % 720))
  | 0, n => by
    simp only [tlI]
    constructor
    · intro h
      exact ⟨h, fun e he => absurd he (by omega)⟩
    · exact fun h => h.1
  | i + 1, n => by
    have ih := tlI_run T ap m0 i
    simp only [tlI]
    by_cases c : T ((660 + i) % 720) = T ((660 + i - ap) % 720)
    · rw [if_pos c]
      constructor
      · intro h
        refine ⟨?_, fun e he => ?_⟩
        · by_cases hn : n = 0
          · omega
          · have := ((ih (n - 1)).mp (by omega)).1
            omega
        · by_cases e0 : e = 0
          · subst e0
            exact c
          · have h2 := ((ih (n - 1)).mp (by omega)).2 (e - 1) (by omega)
            rw [show 660 + i - 1 - (e - 1) = 660 + (i + 1) - 1 - e by omega] at h2
            exact h2
      · intro h
        by_cases hn : n = 0
        · omega
        · have := (ih (n - 1)).mpr ⟨by omega, fun e he => by
            have h2 := h.2 (e + 1) (by omega)
            rw [show 660 + (i + 1) - 1 - (e + 1) = 660 + i - 1 - e by omega] at h2
            exact h2⟩
          omega
    · rw [if_neg c]
      constructor
      · intro h
        refine ⟨by omega, fun e he => by omega⟩
      · intro h
        by_cases hn : n = 0
        · omega
        · exact absurd (h.2 0 (by omega)) c
theorem tlI_most (T : Nat → Nat) (ap m0 : Nat) : ∀ i n, 1 ≤ n → (n ≤ (tlI T ap m0 i).2 ↔ (n ≤ m0 ∨ ∃ k, k < i ∧ 60 ≤ k ∧ ¬ (660 + k) % 720 / 60 = (660 + k - ap) % 720 / 60 ∧ n ≤ (tlI T ap m0 (k + 1)).1))
  | 0, n, hn => by
    simp only [tlI]
    constructor
    · exact fun h => Or.inl h
    · rintro (h | ⟨k, hk, -⟩)
      · exact h
      · omega
  | i + 1, n, hn => by
    have ih := tlI_most T ap m0 i n hn
    have e1 : (tlI T ap m0 (i + 1)).2 = if 720 ≤ 660 + i ∧ ¬ (660 + i) % 720 / 60 = (660 + i - ap) % 720 / 60 ∧ (tlI T ap m0 i).2 < (tlI T ap m0 (i + 1)).1 then (tlI T ap m0 (i + 1)).1 else (tlI T ap m0 i).2 := rfl
    rw [e1]
    by_cases c : 720 ≤ 660 + i ∧ ¬ (660 + i) % 720 / 60 = (660 + i - ap) % 720 / 60 ∧ (tlI T ap m0 i).2 < (tlI T ap m0 (i + 1)).1
    · rw [if_pos c]
      constructor
      · intro h
        exact Or.inr ⟨i, by omega, by omega, c.2.1, h⟩
      · rintro (h | ⟨k, h1, h2, h3, h4⟩)
        · have := ih.mpr (Or.inl h)
          omega
        · by_cases ek : k = i
          · rw [ek] at h4; exact h4
          · have := ih.mpr (Or.inr ⟨k, by omega, h2, h3, h4⟩)
            omega
    · rw [if_neg c, ih]
      constructor
      · rintro (h | ⟨k, h1, h2, h3, h4⟩)
        · exact Or.inl h
        · exact Or.inr ⟨k, by omega, h2, h3, h4⟩
      · rintro (h | ⟨k, h1, h2, h3, h4⟩)
        · exact Or.inl h
        · by_cases ek : k = i
          · subst ek
            have h5 : n ≤ (tlI T ap m0 k).2 := by
              by_cases h6 : (tlI T ap m0 k).2 < (tlI T ap m0 (k + 1)).1
              · exact absurd ⟨by omega, h3, h6⟩ c
              · omega
            exact ih.mp h5
          · exact Or.inr ⟨k, by omega, h2, h3, h4⟩
theorem tlI_m0 (T : Nat → Nat) (ap m0 m1 : Nat) : ∀ i, (tlI T ap m0 i).1 = (tlI T ap m1 i).1
  | 0 => rfl
  | i + 1 => by simp only [tlI]; rw [tlI_m0 T ap m0 m1 i]
theorem tlA_iff (T : Nat → Nat) : ∀ a n, 1 ≤ n → (n ≤ tlA T a ↔ ∃ ap k, 1 ≤ ap ∧ ap ≤ a ∧ k < 780 ∧ 60 ≤ k ∧ ¬ (660 + k) % 720 / 60 = (660 + k - ap) % 720 / 60 ∧ n ≤ (tlI T ap 0 (k + 1)).1)
  | 0, n, hn => by
    simp only [tlA]
    constructor
    · intro h; omega
    · rintro ⟨ap, k, h1, h2, -⟩; omega
  | a + 1, n, hn => by
    have ih := tlA_iff T a n hn
    simp only [tlA]
    rw [tlI_most T (a + 1) (tlA T a) 780 n hn, ih]
    constructor
    · rintro (⟨ap, k, h1, h2, h3⟩ | ⟨k, h1, h2, h3, h4⟩)
      · exact ⟨ap, k, h1, by omega, h3⟩
      · exact ⟨a + 1, k, by omega, by omega, h1, h2, h3, by rw [tlI_m0 T (a + 1) 0 (tlA T a)]; exact h4⟩
    · rintro ⟨ap, k, h1, h2, h3, h4, h5, h6⟩
      by_cases e : ap = a + 1
      · subst e
        exact Or.inr ⟨k, h3, h4, h5, by rw [tlI_m0 T (a + 1) (tlA T a) 0]; exact h6⟩
      · exact Or.inl ⟨ap, k, h1, by omega, h3, h4, h5, h6⟩
theorem dbt_iff (T : Nat → Nat) {n : Nat} (h1 : 1 ≤ n) (h60 : n ≤ 60) : dbt T n ↔ n ≤ tlA T 360 := by
  rw [tlA_iff T 360 n h1]
  constructor
  · have key : ∀ u v, u < 720 → v < 720 → ¬ u / 60 = v / 60 → wnE T n u v → (u + 720 - v) % 720 ≤ 360 → ∃ ap k, 1 ≤ ap ∧ ap ≤ 360 ∧ k < 780 ∧ 60 ≤ k ∧ ¬ (660 + k) % 720 / 60 = (660 + k - ap) % 720 / 60 ∧ n ≤ (tlI T ap 0 (k + 1)).1 := by
      intro u v hu hv hh hw hap
      have hne : ¬ u = v := fun e => hh (by rw [e])
      refine ⟨(u + 720 - v) % 720, u + 60, by omega, hap, by omega, by omega, ?_, ?_⟩
      · have e1 : (660 + (u + 60)) % 720 = u := by omega
        have e2 : (660 + (u + 60) - (u + 720 - v) % 720) % 720 = v := by omega
        rw [e1, e2]
        exact hh
      · rw [tlI_run]
        refine ⟨by omega, fun e he => ?_⟩
        have h2 := hw e he
        have e1 : (660 + (u + 60 + 1) - 1 - e) % 720 = (u + 720 - e) % 720 := by omega
        have e2 : (660 + (u + 60 + 1) - 1 - e - (u + 720 - v) % 720) % 720 = (v + 720 - e) % 720 := by omega
        rw [e1, e2]
        exact h2
    rintro ⟨u, v, hu, hv, hh, hw⟩
    by_cases hap : (u + 720 - v) % 720 ≤ 360
    · exact key u v hu hv hh hw hap
    · exact key v u hv hu (fun e => hh e.symm) (fun e he => (hw e he).symm) (by omega)
  · rintro ⟨ap, k, a1, a2, a3, a4, a5, a6⟩
    rw [tlI_run] at a6
    refine ⟨(660 + k) % 720, (660 + k - ap) % 720, Nat.mod_lt _ (by decide), Nat.mod_lt _ (by decide), a5, fun e he => ?_⟩
    have h2 := a6.2 e he
    have e1 : (660 + (k + 1) - 1 - e) % 720 = ((660 + k) % 720 + 720 - e) % 720 := by omega
    have e2 : (660 + (k + 1) - 1 - e - ap) % 720 = ((660 + k - ap) % 720 + 720 - e) % 720 := by omega
    rw [e1, e2] at h2
    exact h2
-- parts of groups: a group's parts are a chain
def hdI : List Nat → Int32
  | [] => -1
  | p :: _ => nI p
def Lk (f : Nat → Int32) : List Nat → Prop
  | [] => True
  | p :: r => f p = hdI r ∧ Lk f r
theorem Lk.keep {f f' : Nat → Int32} : ∀ {l : List Nat}, Lk f l → (∀ p, p ∈ l → f' p = f p) → Lk f' l
  | [], _, _ => trivial
  | p :: r, h, hk => ⟨by rw [hk p List.mem_cons_self]; exact h.1, Lk.keep h.2 (fun q hq => hk q (List.mem_cons_of_mem _ hq))⟩
