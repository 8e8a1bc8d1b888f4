def so (b : Int32) : Nat := if 97 ≤ b ∧ b ≤ 122 then 1 else if 48 ≤ b ∧ b ≤ 57 then 2 else if b = 32 then 4 else 3
def skB (tp : Nat → Int32) : Nat → Nat → Nat
  | 0, i => i
  | m + 1, i => if tp i = 32 then skB tp m (i + 1) else i
def sk (L : Nat) (tp : Nat → Int32) (i : Nat) : Nat := skB tp (L - i) i
def rnB (tp : Nat → Int32) (t : Nat) : Nat → Nat → Nat
  | 0, i => i
  | m + 1, i => if so (tp i) = t then rnB tp t m (i + 1) else i
def rn (L : Nat) (tp : Nat → Int32) (t i : Nat) : Nat := rnB tp t (L - i) i
theorem sk_s {L : Nat} {tp : Nat → Int32} {i : Nat} (hi : i < L) (h : tp i = 32) : sk L tp i = sk L tp (i + 1) := by
  unfold sk
  rw [show L - i = (L - (i + 1)) + 1 by omega]
  exact if_pos h
theorem sk_e {L : Nat} {tp : Nat → Int32} {i : Nat} (h : ¬ i < L ∨ ¬ tp i = 32) : sk L tp i = i := by
  unfold sk
  by_cases hi : i < L
  · rw [show L - i = (L - (i + 1)) + 1 by omega]
    exact if_neg (h.resolve_left (fun q => q hi))
  · rw [show L - i = 0 by omega]; rfl
theorem rn_s {L t : Nat} {tp : Nat → Int32} {i : Nat} (hi : i < L) (h : so (tp i) = t) : rn L tp t i = rn L tp t (i + 1) := by
  unfold rn
  rw [show L - i = (L - (i + 1)) + 1 by omega]
  exact if_pos h
theorem rn_e {L t : Nat} {tp : Nat → Int32} {i : Nat} (h : ¬ i < L ∨ ¬ so (tp i) = t) : rn L tp t i = i := by
  unfold rn
  by_cases hi : i < L
  · rw [show L - i = (L - (i + 1)) + 1 by omega]
    exact if_neg (h.resolve_left (fun q => q hi))
  · rw [show L - i = 0 by omega]; rfl
theorem skB_p {tp : Nat → Int32} : ∀ (m i : Nat), i ≤ skB tp m i ∧ skB tp m i ≤ i + m ∧ (skB tp m i < i + m → ¬ tp (skB tp m i) = 32) := by
  intro m
  induction m with
  | zero => intro i; exact ⟨Nat.le_refl _, Nat.le_refl _, fun h => absurd h (Nat.lt_irrefl _)⟩
  | succ m ih =>
    intro i
    show i ≤ (if tp i = 32 then skB tp m (i + 1) else i) ∧ (if tp i = 32 then skB tp m (i + 1) else i) ≤ i + (m + 1) ∧ ((if tp i = 32 then skB tp m (i + 1) else i) < i + (m + 1) → ¬ tp (if tp i = 32 then skB tp m (i + 1) else i) = 32)
    by_cases q : tp i = 32
    · rw [if_pos q]
      have r := ih (i + 1)
      exact ⟨by omega, by omega, fun h => r.2.2 (by omega)⟩
    · rw [if_neg q]; exact ⟨Nat.le_refl _, by omega, fun _ => q⟩
theorem rnB_p {tp : Nat → Int32} {t : Nat} : ∀ (m i : Nat), i ≤ rnB tp t m i ∧ rnB tp t m i ≤ i + m ∧ ∀ j, i ≤ j → j < rnB tp t m i → so (tp j) = t := by
  intro m
  induction m with
  | zero => intro i; exact ⟨Nat.le_refl _, Nat.le_refl _, fun j h1 h2 => by have z : j < i := h2; omega⟩
  | succ m ih =>
    intro i
    show i ≤ (if so (tp i) = t then rnB tp t m (i + 1) else i) ∧ (if so (tp i) = t then rnB tp t m (i + 1) else i) ≤ i + (m + 1) ∧ ∀ j, i ≤ j → j < (if so (tp i) = t then rnB tp t m (i + 1) else i) → so (tp j) = t
    by_cases q : so (tp i) = t
    · rw [if_pos q]
      have r := ih (i + 1)
      exact ⟨by omega, by omega, fun j h1 h2 => by
        by_cases e : j = i
        · rw [e]; exact q
        · exact r.2.2 j (by omega) h2⟩
    · rw [if_neg q]; exact ⟨Nat.le_refl _, by omega, fun j h1 h2 => by omega⟩
def nx (L : Nat) (tp : Nat → Int32) (i : Nat) (w : Bool) : Nat × Nat × Nat :=
  if L ≤ sk L tp i then (0, sk L tp i, sk L tp i)
  else if so (tp (sk L tp i)) = 3 then (3, sk L tp i, sk L tp i + 1)
  else if (w = true ∧ sk L tp i = i) ∨ (so (tp (sk L tp i)) = 2 ∧ 4 < rn L tp (so (tp (sk L tp i))) (sk L tp i + 1) - sk L tp i) then (5, sk L tp i, rn L tp (so (tp (sk L tp i))) (sk L tp i + 1))
  else (so (tp (sk L tp i)), sk L tp i, rn L tp (so (tp (sk L tp i))) (sk L tp i + 1))
theorem so_c (b : Int32) : so b = 1 ∨ so b = 2 ∨ so b = 3 ∨ so b = 4 := by
  unfold so
  by_cases h1 : 97 ≤ b ∧ b ≤ 122
  · rw [if_pos h1]; exact Or.inl rfl
  · rw [if_neg h1]
    by_cases h2 : 48 ≤ b ∧ b ≤ 57
    · rw [if_pos h2]; exact Or.inr (Or.inl rfl)
    · rw [if_neg h2]
      by_cases h3 : b = 32
      · rw [if_pos h3]; exact Or.inr (Or.inr (Or.inr rfl))
      · rw [if_neg h3]; exact Or.inr (Or.inr (Or.inl rfl))
theorem so_1 {b : Int32} : so b = 1 ↔ (97 ≤ b ∧ b ≤ 122) := by
  unfold so
  by_cases h1 : 97 ≤ b ∧ b ≤ 122
  · rw [if_pos h1]; exact ⟨fun _ => h1, fun _ => rfl⟩
  · rw [if_neg h1]
    refine ⟨fun q => ?_, fun q => absurd q h1⟩
    by_cases h2 : 48 ≤ b ∧ b ≤ 57
    · rw [if_pos h2] at q; exact absurd q (by decide)
    · rw [if_neg h2] at q
      by_cases h3 : b = 32
      · rw [if_pos h3] at q; exact absurd q (by decide)
      · rw [if_neg h3] at q; exact absurd q (by decide)
theorem so_2 {b : Int32} (h1 : ¬ (97 ≤ b ∧ b ≤ 122)) : so b = 2 ↔ (48 ≤ b ∧ b ≤ 57) := by
  unfold so
  rw [if_neg h1]
  by_cases h2 : 48 ≤ b ∧ b ≤ 57
  · rw [if_pos h2]; exact ⟨fun _ => h2, fun _ => rfl⟩
  · rw [if_neg h2]
    refine ⟨fun q => ?_, fun q => absurd q h2⟩
    by_cases h3 : b = 32
    · rw [if_pos h3] at q; exact absurd q (by decide)
    · rw [if_neg h3] at q; exact absurd q (by decide)
theorem so_2d {b : Int32} (h : so b = 2) : 48 ≤ b ∧ b ≤ 57 := by
  have h1 : ¬ (97 ≤ b ∧ b ≤ 122) := fun q => absurd ((so_1.mpr q).symm.trans h) (by decide)
  exact (so_2 h1).mp h
theorem so_4 {b : Int32} : so b = 4 ↔ b = 32 := by
  refine ⟨fun h => ?_, fun h => by subst h; decide⟩
  unfold so at h
  by_cases h1 : 97 ≤ b ∧ b ≤ 122
  · rw [if_pos h1] at h; exact absurd h (by decide)
  · rw [if_neg h1] at h
    by_cases h2 : 48 ≤ b ∧ b ≤ 57
    · rw [if_pos h2] at h; exact absurd h (by decide)
    · rw [if_neg h2] at h
      by_cases h3 : b = 32
      · exact h3
      · rw [if_neg h3] at h; exact absurd h (by decide)
theorem so_dig {b : Int32} (h : so b = 2) : ∃ k, k ≤ 9 ∧ b = nI (48 + k) := by
  have z := so_2d h
  obtain ⟨q, hq, e⟩ := wi_nI (H := 57) (lo := 48) (hi := 57) (by decide) (by decide) ⟨Int32.not_lt.mpr z.1, Int32.not_lt.mpr z.2⟩
  subst e
  have z2 := (nI_leI (a := 48) (b := q) (by omega) (by omega)).mp z.1
  exact ⟨q - 48, by omega, congrArg nI (by omega)⟩
theorem so_let {b : Int32} (h : so b = 1) : ∃ k, 97 ≤ k ∧ k ≤ 122 ∧ b = nI k := by
  have z := so_1.mp h
  obtain ⟨q, hq, e⟩ := wi_nI (H := 122) (lo := 97) (hi := 122) (by decide) (by decide) ⟨Int32.not_lt.mpr z.1, Int32.not_lt.mpr z.2⟩
  subst e
  exact ⟨q, (nI_leI (a := 97) (b := q) (by omega) (by omega)).mp z.1, hq, rfl⟩
def WFK (L : Nat) (tp : Nat → Int32) (K : Nat × Nat × Nat) : Prop := K.2.2 ≤ L ∧ K.2.1 ≤ K.2.2 ∧ K.1 ≤ 5 ∧ K.1 ≠ 4 ∧ (K.1 = 0 → K.2.1 = L) ∧ (K.1 ≠ 0 → K.2.1 < K.2.2) ∧ (K.1 = 1 → ∀ j, K.2.1 ≤ j → j < K.2.2 → so (tp j) = 1) ∧ (K.1 = 2 → (∀ j, K.2.1 ≤ j → j < K.2.2 → so (tp j) = 2) ∧ K.2.2 ≤ K.2.1 + 4) ∧ (K.1 = 3 → so (tp K.2.1) = 3 ∧ K.2.2 = K.2.1 + 1)
theorem nx_wf {L : Nat} {tp : Nat → Int32} {i : Nat} {w : Bool} (hi : i ≤ L) : WFK L tp (nx L tp i w) ∧ i ≤ (nx L tp i w).2.1 := by
  have s := skB_p (tp := tp) (L - i) i
  have hs1 : i ≤ sk L tp i := s.1
  have hs2 : sk L tp i ≤ L := by have z := s.2.1; show skB tp (L - i) i ≤ L; omega
  have hs3 : sk L tp i < L → ¬ tp (sk L tp i) = 32 := fun h => s.2.2 (by have z : skB tp (L - i) i < L := h; omega)
  unfold nx
  by_cases q : L ≤ sk L tp i
  · rw [if_pos q]
    exact ⟨⟨hs2, Nat.le_refl _, by simp, by simp, fun _ => by show sk L tp i = L; omega, fun h => absurd rfl h, fun h => absurd h (by simp), fun h => absurd h (by simp), fun h => absurd h (by simp)⟩, hs1⟩
  · rw [if_neg q]
    by_cases q3 : so (tp (sk L tp i)) = 3
    · rw [if_pos q3]
      exact ⟨⟨by show sk L tp i + 1 ≤ L; omega, by show sk L tp i ≤ sk L tp i + 1; omega, by simp, by simp, fun h => absurd h (by simp), fun _ => by show sk L tp i < sk L tp i + 1; omega, fun h => absurd h (by simp), fun h => absurd h (by simp), fun _ => ⟨q3, rfl⟩⟩, hs1⟩
    · rw [if_neg q3]
      have r := rnB_p (tp := tp) (t := so (tp (sk L tp i))) (L - (sk L tp i + 1)) (sk L tp i + 1)
      have hr1 : sk L tp i + 1 ≤ rn L tp (so (tp (sk L tp i))) (sk L tp i + 1) := r.1
      have hr2 : rn L tp (so (tp (sk L tp i))) (sk L tp i + 1) ≤ L := by
        have z := r.2.1
        show rnB tp _ (L - (sk L tp i + 1)) (sk L tp i + 1) ≤ L
        omega
      have hr3 : ∀ j, sk L tp i ≤ j → j < rn L tp (so (tp (sk L tp i))) (sk L tp i + 1) → so (tp j) = so (tp (sk L tp i)) := fun j h1 h2 => by
        by_cases e : j = sk L tp i
        · rw [e]
        · exact r.2.2 j (by omega) h2
      have hc : so (tp (sk L tp i)) = 1 ∨ so (tp (sk L tp i)) = 2 := by
        rcases so_c (tp (sk L tp i)) with h | h | h | h
        · exact Or.inl h
        · exact Or.inr h
        · exact absurd h q3
        · exact absurd (so_4.mp h) (hs3 (by omega))
      by_cases q5 : (w = true ∧ sk L tp i = i) ∨ (so (tp (sk L tp i)) = 2 ∧ 4 < rn L tp (so (tp (sk L tp i))) (sk L tp i + 1) - sk L tp i)
      · rw [if_pos q5]
        exact ⟨⟨hr2, by show sk L tp i ≤ rn L tp (so (tp (sk L tp i))) (sk L tp i + 1); omega, by simp, by simp, fun h => absurd h (by simp), fun _ => by show sk L tp i < rn L tp (so (tp (sk L tp i))) (sk L tp i + 1); omega, fun h => absurd h (by simp), fun h => absurd h (by simp), fun h => absurd h (by simp)⟩, hs1⟩
      · rw [if_neg q5]
        refine ⟨⟨hr2, by show sk L tp i ≤ rn L tp (so (tp (sk L tp i))) (sk L tp i + 1); omega, by show so (tp (sk L tp i)) ≤ 5; omega, by show so (tp (sk L tp i)) ≠ 4; omega, fun h => by have z : so (tp (sk L tp i)) = 0 := h; omega, fun _ => by show sk L tp i < rn L tp (so (tp (sk L tp i))) (sk L tp i + 1); omega, fun h j h1 h2 => (hr3 j h1 h2).trans h, fun h => ⟨fun j h1 h2 => (hr3 j h1 h2).trans h, ?_⟩, fun h => absurd h q3⟩, hs1⟩
        have z : ¬ 4 < rn L tp (so (tp (sk L tp i))) (sk L tp i + 1) - sk L tp i := fun z => q5 (Or.inr ⟨h, z⟩)
        show rn L tp (so (tp (sk L tp i))) (sk L tp i + 1) ≤ sk L tp i + 4
        omega
def wd (K : Nat × Nat × Nat) : Bool := decide (K.1 = 1 ∨ K.1 = 2)
def adv (L : Nat) (tp : Nat → Int32) (K : Nat × Nat × Nat) : Nat × Nat × Nat := nx L tp K.2.2 (wd K)
theorem adv_wf {L : Nat} {tp : Nat → Int32} {K : Nat × Nat × Nat} (h : WFK L tp K) : WFK L tp (adv L tp K) ∧ K.2.2 ≤ (adv L tp K).2.1 := nx_wf h.1
