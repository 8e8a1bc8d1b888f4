def pcv (jo : Nat) (N : Nat → Int32) : Option Nat → Int32
  | none => 0
  | some u => N (12 + 1 * (jo + u))
theorem bI_some {u : Nat} (hu : u < 4) : ¬ bI (some u) < 0 := Int32.not_lt.mpr ((nI_leI (a := 0) (b := u) (by omega) (by omega)).mpr (by omega))
theorem tyStp_mt {s g jo t : Nat} {k si e : Int32} {N : Nat → Int32} {p : Option Nat} (hend : (if s = 0 then N (8 + 1 * t) ≤ 0 else 9 ≤ N (8 + 1 * t)) ↔ N (8 + t) = e) (hpk : ∀ u, u < 4 → (mpk k si N t < mpk k si N u ↔ ¬ (if g = 1 then N (12 + 1 * (jo + t)) ≤ N (12 + 1 * (jo + u)) else N (12 + 1 * (jo + u)) ≤ N (12 + 1 * (jo + t))))) (hp : ∀ u, p = some u → u < 4) : tyStp s g jo N t (bI p, pcv jo N p) = (bI (mtS k si e N t p), pcv jo N (mtS k si e N t p)) := by
  unfold tyStp
  cases p with
  | none =>
    by_cases z : N (8 + t) = e
    · rw [if_pos (hend.mpr z)]
      simp only [mtS, if_pos z]
    · rw [if_neg (fun q => z (hend.mp q)), if_pos (show bI none < 0 by decide)]
      simp only [mtS, if_neg z, bI, pcv]
  | some u =>
    have hu := hp u rfl
    by_cases z : N (8 + t) = e
    · rw [if_pos (hend.mpr z)]
      simp only [mtS, if_pos z]
    · rw [if_neg (fun q => z (hend.mp q)), if_neg (bI_some hu)]
      by_cases q : mpk k si N t < mpk k si N u
      · have r := (hpk u hu).mp q
        simp only [mtS, if_neg z, if_pos q]
        exact if_neg r
      · have r := Classical.not_not.mp (fun r => q ((hpk u hu).mpr r))
        simp only [mtS, if_neg z, if_neg q]
        exact if_pos r
theorem tyM_mt {s g jo : Nat} {k si e : Int32} {N : Nat → Int32} (hend : ∀ t, t < 4 → ((if s = 0 then N (8 + 1 * t) ≤ 0 else 9 ≤ N (8 + 1 * t)) ↔ N (8 + t) = e)) (hpk : ∀ t, t < 4 → ∀ u, u < 4 → (mpk k si N t < mpk k si N u ↔ ¬ (if g = 1 then N (12 + 1 * (jo + t)) ≤ N (12 + 1 * (jo + u)) else N (12 + 1 * (jo + u)) ≤ N (12 + 1 * (jo + t))))) : ∀ (m t : Nat) (p : Option Nat), t + m = 4 → (∀ u, p = some u → u < 4) → (tyM s g jo N m t (bI p, pcv jo N p)).1 = bI (mtM k si e N m t p) := by
  intro m
  induction m with
  | zero => intro t p _ _; rfl
  | succ m ih =>
    intro t p ht hp
    show (tyM s g jo N m (t + 1) (tyStp s g jo N t (bI p, pcv jo N p))).1 = bI (mtM k si e N m (t + 1) (mtS k si e N t p))
    rw [tyStp_mt (hend t (by omega)) (hpk t (by omega)) hp]
    exact ih (t + 1) _ (by omega) (mtS_lt (by omega) hp)
theorem wi9 {x : Int32} (h : wi x 0 9) : ∃ q : Fin 10, x = nI q.1 := by
  obtain ⟨q, hq, e⟩ := wi_nI (H := 9) (by decide) (by decide) h
  exact ⟨⟨q, by omega⟩, e⟩
theorem neg9 {x y : Int32} (hx : wi x 0 9) (hy : wi y 0 9) : -x < -y ↔ ¬ x ≤ y := by
  obtain ⟨p, rfl⟩ := wi9 hx
  obtain ⟨q, rfl⟩ := wi9 hy
  clear hx hy
  revert p q
  decide
theorem end0 {x : Int32} (hx : wi x 0 9) : x ≤ 0 ↔ x = 0 := by
  obtain ⟨p, rfl⟩ := wi9 hx
  clear hx
  revert p
  decide
theorem end9 {x : Int32} (hx : wi x 0 9) : 9 ≤ x ↔ x = 9 := by
  obtain ⟨p, rfl⟩ := wi9 hx
  clear hx
  revert p
  decide
theorem mt_ty {N : Nat → Int32} {f : Nat} (hk : wi (N (22 + 5 * f)) 0 5) (hs : wi (N (23 + 5 * f)) 0 1) (h8 : ∀ t, t < 4 → wi (N (8 + t)) 0 9) (h12 : ∀ j, j < 8 → wi (N (12 + j)) 0 9) : bI (mt N f) = ty N f := by
  have h16 : ∀ t, t < 4 → wi (N (16 + t)) 0 9 := fun t ht => (show 12 + (4 + t) = 16 + t by omega) ▸ h12 (4 + t) (by omega)
  unfold mt ty tyK
  rcases wi_c0_1 hs with es | es <;> rcases wi_c0_5 hk with ek | ek | ek | ek | ek | ek <;> simp only [es, ek, if_true, if_false, reduceIte]
  · refine (tyM_mt (s := 0) (g := 0) (jo := 0) (k := 0) (si := 0) (e := 0) (fun t ht => ?_) (fun t ht u hu => ?_) 4 0 none (by omega) (fun u z => by cases z)).symm.trans ?_
    · simp only [Nat.one_mul]
      exact end0 (h8 t ht)
    · have e1 : 12 + 1 * (0 + t) = 12 + t := by omega
      have e2 : 12 + 1 * (0 + u) = 12 + u := by omega
      rw [e1, e2]
      exact Int32.not_le.symm
    · rfl
  · refine (tyM_mt (s := 0) (g := 0) (jo := 4) (k := 1) (si := 0) (e := 0) (fun t ht => ?_) (fun t ht u hu => ?_) 4 0 none (by omega) (fun u z => by cases z)).symm.trans ?_
    · simp only [Nat.one_mul]
      exact end0 (h8 t ht)
    · have e1 : 12 + 1 * (4 + t) = 16 + t := by omega
      have e2 : 12 + 1 * (4 + u) = 16 + u := by omega
      rw [e1, e2]
      exact Int32.not_le.symm
    · rfl
  · refine (tyM_mt (s := 0) (g := 0) (jo := 0) (k := 2) (si := 0) (e := 0) (fun t ht => ?_) (fun t ht u hu => ?_) 4 0 none (by omega) (fun u z => by cases z)).symm.trans ?_
    · simp only [Nat.one_mul]
      exact end0 (h8 t ht)
    · have e1 : 12 + 1 * (0 + t) = 12 + t := by omega
      have e2 : 12 + 1 * (0 + u) = 12 + u := by omega
      rw [e1, e2]
      exact Int32.not_le.symm
    · rfl
  · refine (tyM_mt (s := 0) (g := 0) (jo := 4) (k := 3) (si := 0) (e := 0) (fun t ht => ?_) (fun t ht u hu => ?_) 4 0 none (by omega) (fun u z => by cases z)).symm.trans ?_
    · simp only [Nat.one_mul]
      exact end0 (h8 t ht)
    · have e1 : 12 + 1 * (4 + t) = 16 + t := by omega
      have e2 : 12 + 1 * (4 + u) = 16 + u := by omega
      rw [e1, e2]
      exact Int32.not_le.symm
    · rfl
  · refine (tyM_mt (s := 0) (g := 1) (jo := 4) (k := 4) (si := 0) (e := 0) (fun t ht => ?_) (fun t ht u hu => ?_) 4 0 none (by omega) (fun u z => by cases z)).symm.trans ?_
    · simp only [Nat.one_mul]
      exact end0 (h8 t ht)
    · have e1 : 12 + 1 * (4 + t) = 16 + t := by omega
      have e2 : 12 + 1 * (4 + u) = 16 + u := by omega
      rw [e1, e2]
      exact neg9 (h16 t ht) (h16 u hu)
    · rfl
  · refine (tyM_mt (s := 0) (g := 1) (jo := 0) (k := 5) (si := 0) (e := 0) (fun t ht => ?_) (fun t ht u hu => ?_) 4 0 none (by omega) (fun u z => by cases z)).symm.trans ?_
    · simp only [Nat.one_mul]
      exact end0 (h8 t ht)
    · have e1 : 12 + 1 * (0 + t) = 12 + t := by omega
      have e2 : 12 + 1 * (0 + u) = 12 + u := by omega
      rw [e1, e2]
      exact neg9 (h12 t (by omega)) (h12 u (by omega))
    · rfl
  · refine (tyM_mt (s := 1) (g := 0) (jo := 4) (k := 0) (si := 1) (e := 9) (fun t ht => ?_) (fun t ht u hu => ?_) 4 0 none (by omega) (fun u z => by cases z)).symm.trans ?_
    · simp only [Nat.one_mul]
      exact end9 (h8 t ht)
    · have e1 : 12 + 1 * (4 + t) = 16 + t := by omega
      have e2 : 12 + 1 * (4 + u) = 16 + u := by omega
      rw [e1, e2]
      exact Int32.not_le.symm
    · rfl
  · refine (tyM_mt (s := 1) (g := 0) (jo := 0) (k := 1) (si := 1) (e := 9) (fun t ht => ?_) (fun t ht u hu => ?_) 4 0 none (by omega) (fun u z => by cases z)).symm.trans ?_
    · simp only [Nat.one_mul]
      exact end9 (h8 t ht)
    · have e1 : 12 + 1 * (0 + t) = 12 + t := by omega
      have e2 : 12 + 1 * (0 + u) = 12 + u := by omega
      rw [e1, e2]
      exact Int32.not_le.symm
    · rfl
  · refine (tyM_mt (s := 1) (g := 0) (jo := 4) (k := 2) (si := 1) (e := 9) (fun t ht => ?_) (fun t ht u hu => ?_) 4 0 none (by omega) (fun u z => by cases z)).symm.trans ?_
    · simp only [Nat.one_mul]
      exact end9 (h8 t ht)
    · have e1 : 12 + 1 * (4 + t) = 16 + t := by omega
      have e2 : 12 + 1 * (4 + u) = 16 + u := by omega
      rw [e1, e2]
      exact Int32.not_le.symm
    · rfl
  · refine (tyM_mt (s := 1) (g := 0) (jo := 0) (k := 3) (si := 1) (e := 9) (fun t ht => ?_) (fun t ht u hu => ?_) 4 0 none (by omega) (fun u z => by cases z)).symm.trans ?_
    · simp only [Nat.one_mul]
      exact end9 (h8 t ht)
    · have e1 : 12 + 1 * (0 + t) = 12 + t := by omega
      have e2 : 12 + 1 * (0 + u) = 12 + u := by omega
      rw [e1, e2]
      exact Int32.not_le.symm
    · rfl
  · refine (tyM_mt (s := 1) (g := 1) (jo := 0) (k := 4) (si := 1) (e := 9) (fun t ht => ?_) (fun t ht u hu => ?_) 4 0 none (by omega) (fun u z => by cases z)).symm.trans ?_
    · simp only [Nat.one_mul]
      exact end9 (h8 t ht)
    · have e1 : 12 + 1 * (0 + t) = 12 + t := by omega
      have e2 : 12 + 1 * (0 + u) = 12 + u := by omega
      rw [e1, e2]
      exact neg9 (h12 t (by omega)) (h12 u (by omega))
    · rfl
  · refine (tyM_mt (s := 1) (g := 1) (jo := 4) (k := 5) (si := 1) (e := 9) (fun t ht => ?_) (fun t ht u hu => ?_) 4 0 none (by omega) (fun u z => by cases z)).symm.trans ?_
    · simp only [Nat.one_mul]
      exact end9 (h8 t ht)
    · have e1 : 12 + 1 * (4 + t) = 16 + t := by omega
      have e2 : 12 + 1 * (4 + u) = 16 + u := by omega
      rw [e1, e2]
      exact neg9 (h16 t ht) (h16 u hu)
    · rfl
