theorem sg_rk (b : Int32) (h : sgm b ≠ 0) : (rkM (sgm b) = 5 → b = 42 ∨ b = 47) ∧ (rkM (sgm b) = 4 → b = 43 ∨ b = 45) ∧ (rkM (sgm b) = 3 → b = 60 ∨ b = 61 ∨ b = 62) ∧ (rkM (sgm b) = 2 → b = 38) ∧ (rkM (sgm b) = 1 → b = 124) := by
  by_cases h0 : b = 124
  · subst h0; decide
  by_cases h1 : b = 38
  · subst h1; decide
  by_cases h2 : b = 60
  · subst h2; decide
  by_cases h3 : b = 61
  · subst h3; decide
  by_cases h4 : b = 62
  · subst h4; decide
  by_cases h5 : b = 43
  · subst h5; decide
  by_cases h6 : b = 45
  · subst h6; decide
  by_cases h7 : b = 42
  · subst h7; decide
  by_cases h8 : b = 47
  · subst h8; decide
  exact absurd (by simp [sgm, h0, h1, h2, h3, h4, h5, h6, h7, h8]) h
theorem topB_le {r r' : Int32} {ws : List Int32} (hrr : r < r') (h : topB r ws) : topB r' ws := by
  rcases h with h | ⟨w, u, e, h⟩
  · exact Or.inl h
  · exact Or.inr ⟨w, u, e, h.imp id (fun z => Int32.lt_trans z hrr)⟩
theorem lv_sp {L : Nat} {tp : Nat → Int32} {ky D : Nat} {r r' : Int32} {G : RS → RS} {T : RS → Prop} (hrr : r < r') (hr3 : ¬ r = 3) (hr4 : r' ≤ 3 → r < 3) (hst : ∀ x, rkM x < r' → ¬ rkM x = r → rkM x < r)
    (hT : ∀ ρ, T ρ → ρ.2.1 = none ∧ ρ.1.1 = 3 ∧ rkM (sgm (tp ρ.1.2.1)) = r ∧ sgm (tp ρ.1.2.1) ≠ 0 ∧ tp ρ.1.2.1 ≠ 41)
    (hTn : ∀ ρ, ρ.2.1 = none → ¬ T ρ → sgV ρ.1.1 (tp ρ.1.2.1) = 0 ∨ ¬ rkM (sgV ρ.1.1 (tp ρ.1.2.1)) = r)
    (hG : SpG L tp ky D r' G) (hO : PO L tp D G) : SpG L tp ky D r (fun ρ => lpF L tp G T 96 (G ρ)) := by
  intro ρ W hd hf hk hc cs ws at_ tq hno htq htop
  have S := hG ρ W hd hf hk hc cs ws at_ tq hno (fun z => htq (Int32.le_of_lt (Int32.lt_of_lt_of_le hrr z))) (topB_le hrr htop)
  have K2 := hO ρ W hd
  rcases hq : (G ρ).2.1 with _ | q
  · obtain ⟨e, me, nn, e1, pend, tq', h1, h2, h3, h4, h5, h6, h7, h8, h9, h10⟩ := S.2 hq
    have w96 := W.2.1
    exact lp_sp hrr hr3 hr4 hst hT hTn hG hO hno htop hd hc 96 (G ρ) K2.1 hq (K2.2.1.trans hk) (congrArg (fun z : Nat × Nat => z.1) K2.2.2) (congrArg (fun z : Nat × Nat => z.2) K2.2.2) (by omega) ⟨e, me, nn, e1, pend, tq', h1, h2, h3, h4, h5, pnd_le (Int32.le_of_lt hrr) _ h6, h7, (fun z => h8 (Int32.lt_trans z hrr)), h9, h10⟩
  · have e9 : lpF L tp G T 96 (G ρ) = G ρ := lp_flt (fun ρ z => (hT ρ z).1) 96 _ (by rw [hq]; simp)
    show (∀ q, (lpF L tp G T 96 (G ρ)).2.1 = some q → _) ∧ ((lpF L tp G T 96 (G ρ)).2.1 = none → OKs L tp ky r ρ (lpF L tp G T 96 (G ρ)) cs ws at_ tq)
    rw [e9]
    exact ⟨S.1, fun z => absurd (hq.symm.trans z) (by simp)⟩
theorem sgV_z {t : Nat} {b : Int32} (h : ¬ sgV t b = 0) : t = 3 ∧ sgV t b = sgm b ∧ sgm b ≠ 0 := by
  have z := sg_3 h
  subst z
  exact ⟨rfl, rfl, h⟩
theorem sp_prod {L : Nat} {tp : Nat → Int32} {ky D : Nat} {P : RS → RS} (hG : SpG L tp ky D 6 P) (hO : PO L tp D P) : SpG L tp ky D 5 (pdF L tp P) := by
  refine lv_sp (r := 5) (r' := 6) (T := sgP tp) (by decide) (by decide) (fun z => absurd z (by decide)) (fun x h1 h2 => ?_) (fun ρ z => ?_) (fun ρ hf z => ?_) hG hO
  · have y := rkM_le x; revert h1 h2; unfold rkM; repeat' split
    all_goals decide
  · rcases z with z | z
    · exact ⟨z.1, z.2.1, by rw [z.2.2]; decide, by rw [z.2.2]; decide, by rw [z.2.2]; decide⟩
    · exact ⟨z.1, z.2.1, by rw [z.2.2]; decide, by rw [z.2.2]; decide, by rw [z.2.2]; decide⟩
  · by_cases e : sgV ρ.1.1 (tp ρ.1.2.1) = 0
    · exact Or.inl e
    · obtain ⟨e1, e2, e3⟩ := sgV_z e
      refine Or.inr (fun y => z ?_)
      rw [e2] at y
      exact ((sg_rk _ e3).1 y).imp (fun x => ⟨hf, e1, x⟩) (fun x => ⟨hf, e1, x⟩)
theorem sp_sum {L : Nat} {tp : Nat → Int32} {ky D : Nat} {P : RS → RS} (hG : SpG L tp ky D 5 (pdF L tp P)) (hO : PO L tp D P) : SpG L tp ky D 4 (smF L tp P) := by
  refine lv_sp (r := 4) (r' := 5) (T := sgS tp) (by decide) (by decide) (fun z => absurd z (by decide)) (fun x h1 h2 => ?_) (fun ρ z => ?_) (fun ρ hf z => ?_) hG (pd_ok hO)
  · revert h1 h2; unfold rkM; repeat' split
    all_goals decide
  · rcases z with z | z
    · exact ⟨z.1, z.2.1, by rw [z.2.2]; decide, by rw [z.2.2]; decide, by rw [z.2.2]; decide⟩
    · exact ⟨z.1, z.2.1, by rw [z.2.2]; decide, by rw [z.2.2]; decide, by rw [z.2.2]; decide⟩
  · by_cases e : sgV ρ.1.1 (tp ρ.1.2.1) = 0
    · exact Or.inl e
    · obtain ⟨e1, e2, e3⟩ := sgV_z e
      refine Or.inr (fun y => z ?_)
      rw [e2] at y
      exact ((sg_rk _ e3).2.1 y).imp (fun x => ⟨hf, e1, x⟩) (fun x => ⟨hf, e1, x⟩)
theorem sp_and {L : Nat} {tp : Nat → Int32} {ky D : Nat} {P : RS → RS} (hG : SpG L tp ky D 3 (tsF L tp P)) (hO : PO L tp D P) : SpG L tp ky D 2 (anF L tp P) := by
  refine lv_sp (r := 2) (r' := 3) (T := fun ρ => isSg tp ρ 38) (by decide) (by decide) (fun _ => by decide) (fun x h1 h2 => ?_) (fun ρ z => ?_) (fun ρ hf z => ?_) hG (tsF_ok hO)
  · revert h1 h2; unfold rkM; repeat' split
    all_goals decide
  · exact ⟨z.1, z.2.1, by rw [z.2.2]; decide, by rw [z.2.2]; decide, by rw [z.2.2]; decide⟩
  · by_cases e : sgV ρ.1.1 (tp ρ.1.2.1) = 0
    · exact Or.inl e
    · obtain ⟨e1, e2, e3⟩ := sgV_z e
      refine Or.inr (fun y => z ?_)
      rw [e2] at y
      exact ⟨hf, e1, (sg_rk _ e3).2.2.2.1 y⟩
theorem sp_or {L : Nat} {tp : Nat → Int32} {ky D : Nat} {P : RS → RS} (hG : SpG L tp ky D 2 (anF L tp P)) (hO : PO L tp D P) : SpG L tp ky D 1 (orF L tp P) := by
  refine lv_sp (r := 1) (r' := 2) (T := fun ρ => isSg tp ρ 124) (by decide) (by decide) (fun _ => by decide) (fun x h1 h2 => ?_) (fun ρ z => ?_) (fun ρ hf z => ?_) hG (an_ok hO)
  · revert h1 h2; unfold rkM; repeat' split
    all_goals decide
  · exact ⟨z.1, z.2.1, by rw [z.2.2]; decide, by rw [z.2.2]; decide, by rw [z.2.2]; decide⟩
  · by_cases e : sgV ρ.1.1 (tp ρ.1.2.1) = 0
    · exact Or.inl e
    · obtain ⟨e1, e2, e3⟩ := sgV_z e
      refine Or.inr (fun y => z ?_)
      rw [e2] at y
      exact ⟨hf, e1, (sg_rk _ e3).2.2.2.2 y⟩
