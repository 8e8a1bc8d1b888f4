def cntL : List Int32 → Nat
  | [] => 0
  | x :: xs => (if x < 0 then 0 else 1) + cntL xs
def vlL : List Int32 → Nat → Nat → Prop
  | [], t, u => u = t
  | x :: xs, t, u => ((∃ v, v < 10000 ∧ x = nI v) ∧ t < 96 ∧ vlL xs (t + 1) u) ∨ ((∃ j, j < 4 ∧ x = nI (10000 + j)) ∧ t < 96 ∧ vlL xs (t + 1) u) ∨ (x = -10 ∧ 1 ≤ t ∧ vlL xs t u) ∨ ((∃ c, sgn x c) ∧ 2 ≤ t ∧ vlL xs (t - 1) u)
theorem vlL_a : ∀ (a b : List Int32) (t u v : Nat), vlL a t u → vlL b u v → vlL (a ++ b) t v := by
  intro a
  induction a with
  | nil => intro b t u v h1 h2; have e : u = t := h1; subst e; exact h2
  | cons x a ih =>
    intro b t u v h1 h2
    rcases h1 with ⟨q, r, s⟩ | ⟨q, r, s⟩ | ⟨q, r, s⟩ | ⟨q, r, s⟩
    · exact Or.inl ⟨q, r, ih b _ _ _ s h2⟩
    · exact Or.inr (Or.inl ⟨q, r, ih b _ _ _ s h2⟩)
    · exact Or.inr (Or.inr (Or.inl ⟨q, r, ih b _ _ _ s h2⟩))
    · exact Or.inr (Or.inr (Or.inr ⟨q, r, ih b _ _ _ s h2⟩))
theorem cntL_a : ∀ (a b : List Int32), cntL (a ++ b) = cntL a + cntL b := by
  intro a
  induction a with
  | nil => intro b; exact (Nat.zero_add _).symm
  | cons x a ih => intro b; show (if x < 0 then 0 else 1) + cntL (a ++ b) = (if x < 0 then 0 else 1) + cntL a + cntL b; rw [ih]; omega
def crL (k : Nat) : List Int32 → List Int32 → Prop
  | [], [] => True
  | x :: xs, m :: ms => cr1 k x m ∧ crL k xs ms
  | _, _ => False
theorem crL_a {k : Nat} : ∀ (a m b l : List Int32), crL k a m → crL k b l → crL k (a ++ b) (m ++ l) := by
  intro a
  induction a with
  | nil =>
    intro m b l h1 h2
    cases m with
    | nil => exact h2
    | cons y m => exact absurd h1 id
  | cons x a ih =>
    intro m b l h1 h2
    cases m with
    | nil => exact absurd h1 id
    | cons y m => exact ⟨h1.1, ih m b l h1.2 h2⟩
theorem crL_len {k : Nat} : ∀ (a m : List Int32), crL k a m → a.length = m.length := by
  intro a
  induction a with
  | nil =>
    intro m h
    cases m with
    | nil => rfl
    | cons y m => exact absurd h id
  | cons x a ih =>
    intro m h
    cases m with
    | nil => exact absurd h id
    | cons y m => exact congrArg (· + 1) (ih m h.2)
def XE (k : Nat) (e me : List Int32) (n : Nat) : Prop := crL k e me ∧ cntL me = n ∧ 1 ≤ n ∧ ∀ t, t + n ≤ 96 → vlL me t (t + 1)
theorem nI_nn {v : Nat} (h : v < 100000) : ¬ nI v < 0 := nI_pos (by omega)
theorem xe_num {k v : Nat} (h : v < 10000) : XE k [nI v] [nI v] 1 := by
  refine ⟨⟨Or.inl ⟨v, h, rfl, rfl⟩, trivial⟩, ?_, Nat.le_refl _, fun t ht => Or.inl ⟨⟨v, h, rfl⟩, by omega, rfl⟩⟩
  show (if nI v < 0 then 0 else 1) + 0 = 1
  rw [if_neg (nI_nn (by omega))]
theorem xe_name {k j : Nat} (hj : j < nmk k) : XE k [-1 - nI j] [nI (10000 + j)] 1 := by
  have h4 : j < 4 := by unfold nmk at hj; split at hj <;> omega
  refine ⟨⟨Or.inr (Or.inl ⟨j, hj, ?_, rfl⟩), trivial⟩, ?_, Nat.le_refl _, fun t ht => Or.inr (Or.inl ⟨⟨j, h4, rfl⟩, by omega, rfl⟩)⟩
  · rw [← nI_add j 1, show nI 1 = 1 from rfl]; grind
  · show (if nI (10000 + j) < 0 then 0 else 1) + 0 = 1
    rw [if_neg (nI_nn (by omega))]
theorem xe_not {k n : Nat} {e me : List Int32} (h : XE k e me n) : XE k (e ++ [-33]) (me ++ [-10]) n := by
  obtain ⟨h1, h2, h3, h4⟩ := h
  refine ⟨crL_a _ _ _ _ h1 ⟨Or.inr (Or.inr (Or.inl ⟨rfl, rfl⟩)), trivial⟩, ?_, h3, fun t ht => vlL_a _ _ _ _ _ (h4 t ht) (Or.inr (Or.inr (Or.inl ⟨rfl, by omega, rfl⟩)))⟩
  rw [cntL_a, h2]; rfl
theorem xe_two {k n n2 : Nat} {e me e2 me2 : List Int32} {m s : Int32} (hs : sgn m s) (h : XE k e me n) (g : XE k e2 me2 n2) : XE k (e ++ e2 ++ [-s]) (me ++ me2 ++ [m]) (n + n2) := by
  obtain ⟨h1, h2, h3, h4⟩ := h
  obtain ⟨g1, g2, g3, g4⟩ := g
  refine ⟨crL_a _ _ _ _ (crL_a _ _ _ _ h1 g1) ⟨Or.inr (Or.inr (Or.inr ⟨s, hs, rfl⟩)), trivial⟩, ?_, by omega, fun t ht => vlL_a _ _ _ _ _ (vlL_a _ _ _ _ _ (h4 t (by omega)) (g4 (t + 1) (by omega))) (Or.inr (Or.inr (Or.inr ⟨⟨s, hs⟩, by omega, by show t + 1 = t + 1 + 1 - 1; omega⟩)))⟩
  rw [cntL_a, cntL_a, h2, g2]
  show n + n2 + ((if m < 0 then 0 else 1) + 0) = n + n2
  rw [if_pos (sgn_neg hs).1]; rfl
theorem sgm_s (b : Int32) (h : sgm b ≠ 0) : sgn (sgm b) b := by
  by_cases h0 : b = 124
  · subst h0; unfold sgn sgm; decide
  by_cases h1 : b = 38
  · subst h1; unfold sgn sgm; decide
  by_cases h2 : b = 60
  · subst h2; unfold sgn sgm; decide
  by_cases h3 : b = 61
  · subst h3; unfold sgn sgm; decide
  by_cases h4 : b = 62
  · subst h4; unfold sgn sgm; decide
  by_cases h5 : b = 43
  · subst h5; unfold sgn sgm; decide
  by_cases h6 : b = 45
  · subst h6; unfold sgn sgm; decide
  by_cases h7 : b = 42
  · subst h7; unfold sgn sgm; decide
  by_cases h8 : b = 47
  · subst h8; unfold sgn sgm; decide
  exact absurd (by simp [sgm, h0, h1, h2, h3, h4, h5, h6, h7, h8]) h
theorem dig_v {b : Int32} (h : so b = 2) : ∃ v, v < 10 ∧ b = nI (48 + v) := by
  have z := so_2d h
  obtain ⟨q, hq, e⟩ := wi_nI (H := 57) (lo := 48) (hi := 57) (by decide) (by decide) ⟨Int32.not_lt.mpr z.1, Int32.not_lt.mpr z.2⟩
  refine ⟨q - 48, by omega, ?_⟩
  rw [e]
  congr 1
  have y : (48 : Int32) ≤ nI q := e ▸ z.1
  have y2 := (nI_leI (a := 48) (b := q) (by omega) (by omega)).mp y
  omega
theorem nu_b {tp : Nat → Int32} {f : Nat} : ∀ (m : Nat), m ≤ 4 → (∀ j, f ≤ j → j < f + m → so (tp j) = 2) → ∃ v, v < 10 ^ m ∧ nuV tp m f 0 = nI v := by
  intro m
  induction m with
  | zero => intro _ _; exact ⟨0, by decide, rfl⟩
  | succ m ih =>
    intro hm h
    obtain ⟨v, hv, e⟩ := ih (by omega) (fun j h1 h2 => h j h1 (by omega))
    obtain ⟨u, hu, eu⟩ := dig_v (h (f + m) (by omega) (by omega))
    refine ⟨v * 10 + u, by rw [Nat.pow_succ]; omega, ?_⟩
    rw [nu_s, e, eu, show nI (v * 10 + u) = nI (v * 10) + nI u from (nI_add _ _).symm, ← nI_add 48 u, show nI (v * 10) = nI v * 10 from (pk_mul v 10).symm]
    show nI v * 10 + (48 + nI u) - 48 = nI v * 10 + nI u
    grind
theorem num_v {L : Nat} {tp : Nat → Int32} {K : Nat × Nat × Nat} (wk : WFK L tp K) (h : K.1 = 2) : ∃ v, v < 10000 ∧ nuV tp (K.2.2 - K.2.1) K.2.1 0 = nI v := by
  have z := wk.2.2.2.2.2.2.2.1 h
  have wf := wk.2.1
  obtain ⟨v, hv, e⟩ := nu_b (tp := tp) (f := K.2.1) (K.2.2 - K.2.1) (by omega) (fun j h1 h2 => z.1 j h1 (by omega))
  exact ⟨v, Nat.lt_of_lt_of_le hv (Nat.le_trans (Nat.pow_le_pow_right (by decide) (show K.2.2 - K.2.1 ≤ 4 by omega)) (by decide)), e⟩
