theorem ff_ok {L : Nat} {tp : Nat → Int32} {k : Int32} (hL : L ≤ 96) (hn : (ffF L tp k).2.1 = none) : ∃ j me, j < 3 ∧ (ffF L tp k).2.2.1 = nI j ∧ XE j (ffF L tp k).2.2.2.1 me (ffF L tp k).2.2.2.2.1 ∧ (ffF L tp k).2.2.2.1.length + 3 ≤ 96 ∧ (ffF L tp k).2.2.2.2.1 ≤ 96 := by
  have out : ∀ (j : Nat) (K : Nat × Nat × Nat) (R : RT9), j < 3 → TOP L tp j K (fun _ => 0) (ffF L tp k) R → ∃ j me, j < 3 ∧ (ffF L tp k).2.2.1 = nI j ∧ XE j (ffF L tp k).2.2.2.1 me (ffF L tp k).2.2.2.2.1 ∧ (ffF L tp k).2.2.2.1.length + 3 ≤ 96 ∧ (ffF L tp k).2.2.2.2.1 ≤ 96 := by
    intro j K R hj T
    obtain ⟨hk, e, me, nn, h1, h2, h3, h4, h5⟩ := T.2.2 hn
    have hl := crL_len e me h3.1
    have hc := cntL_le me
    have h31 := h3.2.1
    exact ⟨j, me, hj, hk, by rw [h1, h2]; exact h3, by rw [h1]; exact h5, by rw [h2]; omega⟩
  by_cases z0 : wz0 tp (avF L tp (ρI k))
  · obtain ⟨R, T⟩ := top_j (tq := fun _ => 0) hL (show 0 < 3 by decide) rfl z0.1 (by have y : (adv L tp (0, 0, 0)).2.2 = (adv L tp (0, 0, 0)).2.1 + 4 := z0.2.1; omega) (cI_t z0)
    exact out _ _ _ (by decide) T
  · by_cases z1 : wz1 tp (avF L tp (ρI k))
    · obtain ⟨R, T⟩ := top_j (tq := fun _ => 0) hL (show 1 < 3 by decide) rfl z1.1 (by have y : (adv L tp (0, 0, 0)).2.2 = (adv L tp (0, 0, 0)).2.1 + 3 := z1.2.1; omega) ((cI_f z0).trans (cI_t z1))
      exact out _ _ _ (by decide) T
    · by_cases z2 : wz2 tp (avF L tp (ρI k))
      · obtain ⟨R, T⟩ := top_j (tq := fun _ => 0) hL (show 2 < 3 by decide) rfl z2.1 (by have y : (adv L tp (0, 0, 0)).2.2 = (adv L tp (0, 0, 0)).2.1 + 4 := z2.2.1; omega) ((cI_f z0).trans ((cI_f z1).trans (cI_t z2)))
        exact out _ _ _ (by decide) T
      · exact absurd ((ff_no z0 z1 z2).symm.trans hn) (by simp)
