theorem pc_flt {L : Nat} {tp : Nat → Int32} {ρ : RS} (h : ρ.2.1 ≠ none) : ∀ (D : Nat), pcF L tp D ρ = ρ := by
  intro D
  cases D with
  | zero => rfl
  | succ D => exact cI_f h
theorem or_flt {L D : Nat} {tp : Nat → Int32} {ρ : RS} (h : ρ.2.1 ≠ none) : orF L tp (pcF L tp D) ρ = ρ := by
  have hs : ∀ c, ∀ ρ, isSg tp ρ c → ρ.2.1 = none := fun c ρ z => z.1
  have e1 : pdF L tp (pcF L tp D) ρ = ρ := by
    unfold pdF; rw [pc_flt h]; exact lp_flt (fun ρ z => z.elim (fun y => y.1) (fun y => y.1)) 96 ρ h
  have e2 : smF L tp (pcF L tp D) ρ = ρ := by
    unfold smF; rw [e1]; exact lp_flt (fun ρ z => z.elim (fun y => y.1) (fun y => y.1)) 96 ρ h
  have e3 : tsF L tp (pcF L tp D) ρ = ρ := by
    unfold tsF; rw [e2]; exact cI_f (fun z => h (sgT_g z).1)
  have e4 : anF L tp (pcF L tp D) ρ = ρ := by
    unfold anF; rw [e3]; exact lp_flt (fun ρ z => z.1) 96 ρ h
  unfold orF; rw [e4]; exact lp_flt (fun ρ z => z.1) 96 ρ h
theorem ff_no {L : Nat} {tp : Nat → Int32} {k : Int32} (h0 : ¬ wz0 tp (avF L tp (ρI k))) (h1 : ¬ wz1 tp (avF L tp (ρI k))) (h2 : ¬ wz2 tp (avF L tp (ρI k))) : (ffF L tp k).2.1 = some (adv L tp (0, 0, 0)).2.1 := by
  have e : rkF L tp (avF L tp (ρI k)) = flF (avF L tp (ρI k)) := (cI_f h0).trans ((cI_f h1).trans (cI_f h2))
  have hf : (flF (avF L tp (ρI k))).2.1 = some (adv L tp (0, 0, 0)).2.1 := rfl
  have e2 : ffC L tp k = flF (avF L tp (ρI k)) := by
    unfold ffC; rw [e]; exact or_flt (by rw [hf]; simp)
  by_cases z0 : (ffC L tp k).1.1 = 0
  · rw [show ffF L tp k = ffC L tp k from cI_t z0, e2]; exact hf
  · rw [show ffF L tp k = flF (ffC L tp k) from cI_f z0, e2]; rfl
theorem vl_vld {cf : Nat → Int32} : ∀ (xs : List Int32) (i t u : Nat), vlL xs t u → (∀ z, z < xs.length → cf (i + z) = xs.getD z 0) → vld cf xs.length i t := by
  intro xs
  induction xs with
  | nil => intro i t u _ _; trivial
  | cons x xs ih =>
    intro i t u h hc
    have h0 : cf i = x := hc 0 (by show 0 < xs.length + 1; omega)
    have hr : ∀ z, z < xs.length → cf (i + 1 + z) = xs.getD z 0 := fun z hz => by
      have q := hc (z + 1) (by show z + 1 < xs.length + 1; omega)
      rw [show i + 1 + z = i + (z + 1) by omega]; exact q
    show vld cf (xs.length + 1) i t
    rcases h with ⟨⟨v, q1, q2⟩, r, s⟩ | ⟨⟨v, q1, q2⟩, r, s⟩ | ⟨q, r, s⟩ | ⟨⟨c, q⟩, r, s⟩
    · exact Or.inl ⟨v, q1, h0.trans q2, r, ih _ _ _ s hr⟩
    · exact Or.inr (Or.inl ⟨v, q1, h0.trans q2, r, ih _ _ _ s hr⟩)
    · exact Or.inr (Or.inr (Or.inl ⟨h0.trans q, r, ih _ _ _ s hr⟩))
    · exact Or.inr (Or.inr (Or.inr ⟨c, by rw [h0]; exact q, r, ih _ _ _ s hr⟩))
theorem cnt_l {cf : Nat → Int32} : ∀ (xs : List Int32) (i : Nat), (∀ z, z < xs.length → cf (i + z) = xs.getD z 0) → cnt cf xs.length i = cntL xs := by
  intro xs
  induction xs with
  | nil => intro i _; rfl
  | cons x xs ih =>
    intro i hc
    have h0 : cf i = x := hc 0 (by show 0 < xs.length + 1; omega)
    have hr : ∀ z, z < xs.length → cf (i + 1 + z) = xs.getD z 0 := fun z hz => by
      have q := hc (z + 1) (by show z + 1 < xs.length + 1; omega)
      rw [show i + 1 + z = i + (z + 1) by omega]; exact q
    show (if cf i < 0 then 0 else 1) + cnt cf xs.length (i + 1) = (if x < 0 then 0 else 1) + cntL xs
    rw [h0, ih (i + 1) hr]
theorem cr_at {k : Nat} : ∀ (e me : List Int32), crL k e me → ∀ i, i < e.length → cr1 k (e.getD i 0) (me.getD i 0) := by
  intro e
  induction e with
  | nil => intro me _ i hi; exact absurd hi (Nat.not_lt_zero i)
  | cons x e ih =>
    intro me h i hi
    cases me with
    | nil => exact absurd h id
    | cons y me =>
      cases i with
      | zero => exact h.1
      | succ i => exact ih me h.2 i (by have z : i + 1 < e.length + 1 := hi; omega)
theorem cntL_le : ∀ (xs : List Int32), cntL xs ≤ xs.length := by
  intro xs
  induction xs with
  | nil => exact Nat.le_refl _
  | cons x xs ih => show (if x < 0 then 0 else 1) + cntL xs ≤ xs.length + 1; split <;> omega
theorem tx_hd {N : Nat → Int32} {c j at_ : Nat} {cs : List Int32} (hc : c < 14) (hl : cs.length ≤ 96) : txN N c j cs at_ (62 + 2 * c) = nI (1000 * j + cs.length) ∧ txN N c j cs at_ (63 + 2 * c) = nI at_ ∧ txN N c j cs at_ 7 = nI (c + 1) ∧ (∀ z, z < cs.length → txN N c j cs at_ (90 + 96 * c + z) = cs.getD z 0) ∧ (∀ k, k ≠ 7 → k ≠ 62 + 2 * c → k ≠ 63 + 2 * c → (k < 90 + 96 * c ∨ 90 + 96 * c + 96 ≤ k) → txN N c j cs at_ k = N k) := by
  refine ⟨?_, ?_, pk_us, fun z hz => ?_, fun k k1 k2 k3 k4 => ?_⟩
  · refine (pk_un (by omega)).trans ((if_neg (by omega)).trans ((pk_un (by omega)).trans pk_us))
  · refine (pk_un (by omega)).trans ((if_neg (by omega)).trans pk_us)
  · refine (pk_un (by omega)).trans ((if_pos ⟨by omega, by omega⟩).trans ?_)
    rw [show 90 + 96 * c + z - (90 + 96 * c) = z by omega]
  · refine (pk_un k1).trans ((if_neg (by omega)).trans ((pk_un k3).trans (pk_un k2)))
