theorem sgT_g {tp : Nat → Int32} {ρ : RS} (h : sgT tp ρ) : ρ.2.1 = none ∧ ρ.1.1 = 3 ∧ rkM (sgm (tp ρ.1.2.1)) = 3 ∧ sgm (tp ρ.1.2.1) ≠ 0 ∧ tp ρ.1.2.1 ≠ 41 := by
  rcases h with z | z | z
  · exact ⟨z.1, z.2.1, by rw [z.2.2]; decide, by rw [z.2.2]; decide, by rw [z.2.2]; decide⟩
  · exact ⟨z.1, z.2.1, by rw [z.2.2]; decide, by rw [z.2.2]; decide, by rw [z.2.2]; decide⟩
  · exact ⟨z.1, z.2.1, by rw [z.2.2]; decide, by rw [z.2.2]; decide, by rw [z.2.2]; decide⟩
theorem rk34 {x : Int32} (h : rkM x < 4) : rkM x < 3 ∨ rkM x = 3 := by
  revert h
  unfold rkM
  repeat' split
  all_goals decide
set_option maxHeartbeats 2000000 in
theorem ts_sp {L : Nat} {tp : Nat → Int32} {ky D : Nat} {G : RS → RS} (hG : SpG L tp ky D 4 G) (hO : PO L tp D G) : SpG L tp ky D 3 (fun ρ => tsG L tp G (G ρ)) := by
  intro ρ0 W0 hd0 hf0 hk0 hc0 cs ws at_ tq hno htq htop
  have htq0 := htq (by decide)
  have S0 := hG ρ0 W0 hd0 hf0 hk0 hc0 cs ws at_ tq hno (fun z => absurd z (by decide)) (topB_le (by decide) htop)
  have K0 := hO ρ0 W0 hd0
  show (∀ q, (tsG L tp G (G ρ0)).2.1 = some q → _) ∧ ((tsG L tp G (G ρ0)).2.1 = none → OKs L tp ky 3 ρ0 (tsG L tp G (G ρ0)) cs ws at_ tq)
  rcases hq0 : (G ρ0).2.1 with _ | q
  · obtain ⟨e, me, nn, e1, pend, tq', h1, h2, h3, h4, h5, h6, h7, h8, h9, h10⟩ := S0.2 hq0
    have W := K0.1
    have hb : (G ρ0).2.2.2.2.2.1 = ρ0.2.2.2.2.2.1 := congrArg (fun z : Nat × Nat => z.1) K0.2.2
    have hg : (G ρ0).2.2.2.2.2.2 = ρ0.2.2.2.2.2.2 := congrArg (fun z : Nat × Nat => z.2) K0.2.2
    have hk : (G ρ0).2.2.1 = nI ky := K0.2.1.trans hk0
    have hz' : tq' ρ0.2.2.2.2.2.1 = 0 := (h8 (by decide)).mpr htq0
    generalize hρ : G ρ0 = ρ at *
    generalize hbb : ρ0.2.2.2.2.2.1 = b at *
    generalize hgg : ρ0.2.2.2.2.2.2 = gq at *
    by_cases hTt : sgT tp ρ
    · have y := sgT_g hTt
      have hstep : tsG L tp G ρ = emF (-(tp ρ.1.2.1)) (G (avF L tp ρ)) := cI_t hTt
      rw [hstep]
      have W2 := wr_av W
      have hu := adv_up W.1 (by omega)
      have hu2 : ρ.1.2.1 + 1 ≤ (adv L tp ρ.1).2.1 := hu.2
      have w1 := hu.1.1
      have w2 := hu.1.2.1
      have w96 := W.2.1
      have hlen : ρ.2.2.2.1.length = ρ0.2.2.2.1.length + e.length := by rw [h1, List.length_append]
      have hgn := sgm_n (tp ρ.1.2.1)
      have hgV : sgV ρ.1.1 (tp ρ.1.2.1) = sgm (tp ρ.1.2.1) := by rw [y.2.1]; rfl
      have htv : tsV (sgm (tp ρ.1.2.1)) (tq' b) = 1 := if_pos (Or.inl y.2.2.1)
      have hno2 : nO (sgm (tp ρ.1.2.1) :: ws) = gq := by
        show (if sgm (tp ρ.1.2.1) = -10 then 1 else 0) + nO ws = gq
        rw [if_neg hgn.1, Nat.zero_add]; exact hno
      have hst2 : stl (rkM (sgm (tp ρ.1.2.1))) (cs ++ e1) (pend ++ ws) = (cs ++ me, ws) := by
        rw [y.2.2.1, stl_pnd htop pend _ (pnd_le (by decide) _ h6), List.append_assoc, h5]
      have hd2 : 17 ≤ D + ρ.2.2.2.2.2.1 + ρ.2.2.2.2.2.2 := by rw [hb, hg]; exact hd0
      have S := hG (avF L tp ρ) W2 hd2 hq0 hk (by show ρ.2.2.2.1.length + 3 ≤ (adv L tp ρ.1).2.1; omega) (cs ++ me) (sgm (tp ρ.1.2.1) :: ws) (at_ + nn) (upd tq' b 1) (hno2.trans hg.symm) (fun z => absurd z (by decide)) (Or.inr ⟨_, _, rfl, Or.inr (by rw [y.2.2.1]; decide)⟩)
      have hb2 : (avF L tp ρ).2.2.2.2.2.1 = b := hb
      have TS : ∀ R, TE L tp (nI ky) true b (adv L tp ρ.1, cs ++ me, sgm (tp ρ.1.2.1) :: ws, at_ + nn, upd tq' b 1) R → TE L tp (nI ky) true b (ρ0.1, cs, ws, at_, tq) R := fun R t => h10 R (te_sg b ρ.1 (cs ++ e1) (pend ++ ws) (at_ + nn) tq' R _ (fun z => y.2.2.2.2 z.2.1) hgV y.2.2.2.1 (fun z => z.2 hz') (by rw [hst2, htv]; exact t))
      have K2 := hO (avF L tp ρ) W2 hd2
      rcases hq : (G (avF L tp ρ)).2.1 with _ | q
      · obtain ⟨e2, me2, n2, e12, p2, tq2, g1, g2, g3, g4, g5, g6, g7, g8, g9, g10⟩ := S.2 hq
        rw [hb2] at g7 g8 g9 g10
        have g1' : (G (avF L tp ρ)).2.2.2.1 = ρ.2.2.2.1 ++ e2 := g1
        have g4' : e2.length + (adv L tp ρ.1).2.1 ≤ (G (avF L tp ρ)).1.2.1 := g4
        have k1 := K2.1.1.1
        have k2 := K2.1.1.2.1
        have hl3 : (G (avF L tp ρ)).2.2.2.1.length < 96 := by rw [g1', List.length_append]; omega
        have hz2 : ¬ tq2 b = 0 := fun z => by
          have z2 := (g8 (by decide)).mp z
          rw [pk_us] at z2
          exact absurd z2 (by decide)
        refine ⟨fun q z => absurd ((show (emF (-(tp ρ.1.2.1)) (G (avF L tp ρ))).2.1 = none from hq).symm.trans z) (by simp), fun _ => ?_⟩
        refine ⟨e ++ e2 ++ [-(tp ρ.1.2.1)], me ++ me2 ++ [sgm (tp ρ.1.2.1)], nn + n2, me ++ e12, p2 ++ [sgm (tp ρ.1.2.1)], tq2, ?_, xe_two (sgm_s _ y.2.2.2.1) h2 g2, ?_, ?_, ?_, ?_, ?_, (fun z => absurd z (by decide)), ?_, ?_⟩
        · show emL (G (avF L tp ρ)).2.2.2.1 (-(tp ρ.1.2.1)) = _
          rw [em_app hl3, g1', h1]; simp only [List.append_assoc]
        · show (G (avF L tp ρ)).2.2.2.2.1 = _
          have g3' : (G (avF L tp ρ)).2.2.2.2.1 = ρ.2.2.2.2.1 + n2 := g3
          rw [g3', h3, Nat.add_assoc]
        · show (e ++ e2 ++ [-(tp ρ.1.2.1)]).length + ρ0.1.2.1 ≤ (G (avF L tp ρ)).1.2.1
          rw [List.length_append, List.length_append, List.length_singleton]; omega
        · rw [← g5]; simp only [List.append_assoc]
        · exact pnd_a _ _ (pnd_le (by decide) _ g6) ⟨⟨by rw [y.2.2.1]; exact Int32.le_refl _, hgn.2, hgn.1⟩, trivial⟩
        · intro k hk2
          have hk3 : k < b := hbb ▸ hk2
          rw [g7 k hk3, pk_un (by omega)]; exact h7 k hk3
        · rw [hbb]
          rcases g9 with z | z | z
          · exact Or.inl z
          · rcases rk34 z with z2 | z2
            · exact Or.inr (Or.inl z2)
            · exact Or.inr (Or.inr ⟨z2, hz2, by decide⟩)
          · exact absurd z.2.2 (by decide)
        · rw [hbb]
          intro R t
          refine TS R (g10 R ?_)
          have t2 : TE L tp (nI ky) false b ((G (avF L tp ρ)).1, cs ++ (me ++ e12), p2 ++ [sgm (tp ρ.1.2.1)] ++ ws, at_ + (nn + n2), tq2) R := t
          rw [← List.append_assoc, List.append_assoc p2, ← Nat.add_assoc] at t2
          exact t2
      · have hfl : (emF (-(tp ρ.1.2.1)) (G (avF L tp ρ))).2.1 = some q := hq
        refine ⟨fun q2 z => ?_, fun z => absurd (hfl.symm.trans z) (by simp)⟩
        obtain rfl : q = q2 := Option.some.inj (hfl.symm.trans z)
        have z2 := S.1 q hq
        rw [hb2] at z2
        exact TS _ z2
    · have hstep : tsG L tp G ρ = ρ := cI_f hTt
      rw [hstep]
      refine ⟨fun q z => absurd (hq0.symm.trans z) (by simp), fun _ => ⟨e, me, nn, e1, pend, tq', h1, h2, h3, h4, h5, pnd_le (by decide) _ h6, (fun k hk2 => h7 k (hbb ▸ hk2)), (fun z => absurd z (by decide)), ?_, ?_⟩⟩
      · rw [hbb]
        by_cases ez : sgV ρ.1.1 (tp ρ.1.2.1) = 0
        · exact Or.inl ez
        · obtain ⟨z1, z2, z3⟩ := sgV_z ez
          rcases h9 with z | z | z
          · exact Or.inl z
          · rcases rk34 z with x | x
            · exact Or.inr (Or.inl x)
            · rw [z2] at x
              exact absurd (((sg_rk _ z3).2.2.1 x).imp (fun x => ⟨hq0, z1, x⟩) (fun x => x.imp (fun x => ⟨hq0, z1, x⟩) (fun x => ⟨hq0, z1, x⟩))) hTt
          · exact absurd z.2.2 (by decide)
      · rw [hbb]; exact h10
  · have hn : ¬ sgT tp (G ρ0) := fun z => by
      have y := (sgT_g z).1
      rw [hq0] at y
      cases y
    have hstep : tsG L tp G (G ρ0) = G ρ0 := cI_f hn
    rw [hstep]
    exact ⟨S0.1, fun z => absurd (hq0.symm.trans z) (by simp)⟩
theorem sp_test {L : Nat} {tp : Nat → Int32} {ky D : Nat} {P : RS → RS} (hG : SpG L tp ky D 4 (smF L tp P)) (hO : PO L tp D P) : SpG L tp ky D 3 (tsF L tp P) := ts_sp hG (sm_ok hO)
