def OKl (L : Nat) (tp : Nat → Int32) (ky : Nat) (r r' : Int32) (b : Nat) (ρ0 ρ : RS) (cs ws : List Int32) (at_ : Nat) (tq : Nat → Int32) : Prop := ∃ e me nn e1 pend tq', ρ.2.2.2.1 = ρ0.2.2.2.1 ++ e ∧ XE ky e me nn ∧ ρ.2.2.2.2.1 = ρ0.2.2.2.2.1 + nn ∧ e.length + ρ0.1.2.1 ≤ ρ.1.2.1 ∧ e1 ++ pend = me ∧ pnd r pend ∧ (∀ k, k < b → tq' k = tq k) ∧ (3 < r → (tq' b = 0 ↔ tq b = 0)) ∧ endC tp r' ρ.1 (tq' b) ∧ ∀ R, TE L tp (nI ky) false b (ρ.1, cs ++ e1, pend ++ ws, at_ + nn, tq') R → TE L tp (nI ky) true b (ρ0.1, cs, ws, at_, tq) R
set_option maxHeartbeats 2000000 in
theorem lp_sp {L : Nat} {tp : Nat → Int32} {ky D : Nat} {r r' : Int32} {G : RS → RS} {T : RS → Prop} (hrr : r < r') (hr3 : ¬ r = 3) (hr4 : r' ≤ 3 → r < 3) (hst : ∀ x, rkM x < r' → ¬ rkM x = r → rkM x < r)
    (hT : ∀ ρ, T ρ → ρ.2.1 = none ∧ ρ.1.1 = 3 ∧ rkM (sgm (tp ρ.1.2.1)) = r ∧ sgm (tp ρ.1.2.1) ≠ 0 ∧ tp ρ.1.2.1 ≠ 41)
    (hTn : ∀ ρ, ρ.2.1 = none → ¬ T ρ → sgV ρ.1.1 (tp ρ.1.2.1) = 0 ∨ ¬ rkM (sgV ρ.1.1 (tp ρ.1.2.1)) = r)
    (hG : SpG L tp ky D r' G) (hO : PO L tp D G) {b gq : Nat} {ρ0 : RS} {cs ws : List Int32} {at_ : Nat} {tq : Nat → Int32} (hno : nO ws = gq) (htop : topB r ws) (hD : 17 ≤ D + b + gq) (hc0 : ρ0.2.2.2.1.length + 3 ≤ ρ0.1.2.1) :
    ∀ (m : Nat) (ρ : RS), WR L tp ρ → ρ.2.1 = none → ρ.2.2.1 = nI ky → ρ.2.2.2.2.2.1 = b → ρ.2.2.2.2.2.2 = gq → L ≤ m + ρ.1.2.1 → OKl L tp ky r r' b ρ0 ρ cs ws at_ tq →
      (∀ q, (lpF L tp G T m ρ).2.1 = some q → TE L tp (nI ky) true b (ρ0.1, cs, ws, at_, tq) (none, q)) ∧ ((lpF L tp G T m ρ).2.1 = none → OKl L tp ky r r b ρ0 (lpF L tp G T m ρ) cs ws at_ tq) := by
  have hend : ∀ ρ, ρ.2.1 = none → ¬ T ρ → OKl L tp ky r r' b ρ0 ρ cs ws at_ tq → OKl L tp ky r r b ρ0 ρ cs ws at_ tq := by
    intro ρ hf hn h
    obtain ⟨e, me, nn, e1, pend, tq', h1, h2, h3, h4, h5, h6, h7, h8, h9, h10⟩ := h
    refine ⟨e, me, nn, e1, pend, tq', h1, h2, h3, h4, h5, h6, h7, h8, ?_, h10⟩
    rcases hTn ρ hf hn with z | z
    · exact Or.inl z
    · rcases h9 with y | y | y
      · exact Or.inl y
      · exact Or.inr (Or.inl (hst _ y z))
      · exact Or.inr (Or.inr ⟨y.1, y.2.1, Int32.le_of_lt (hr4 y.2.2)⟩)
  intro m
  induction m with
  | zero =>
    intro ρ W hf hk hb hg hm h
    have hn : ¬ T ρ := fun z => by
      have y := hT ρ z
      have x := W.1.2.2.2.2.2.1 (by omega)
      have v := W.1.1
      omega
    exact ⟨fun q z => absurd (hf.symm.trans z) (by simp), fun _ => hend ρ hf hn h⟩
  | succ m ih =>
    intro ρ W hf hk hb hg hm h
    by_cases hTt : T ρ
    · have y := hT ρ hTt
      have hstep : lpF L tp G T (m + 1) ρ = lpF L tp G T m (emF (-(tp ρ.1.2.1)) (G (avF L tp ρ))) := cI_t hTt
      rw [hstep]
      obtain ⟨e, me, nn, e1, pend, tq', h1, h2, h3, h4, h5, h6, h7, h8, h9, h10⟩ := h
      have W2 := wr_av W
      have hu := adv_up W.1 (by omega)
      have hu2 : ρ.1.2.1 + 1 ≤ (adv L tp ρ.1).2.1 := hu.2
      have w1 := hu.1.1
      have w2 := hu.1.2.1
      have w96 := W.2.1
      have hlen : ρ.2.2.2.1.length = ρ0.2.2.2.1.length + e.length := by rw [h1, List.length_append]
      have hgn := sgm_n (tp ρ.1.2.1)
      have hgV : sgV ρ.1.1 (tp ρ.1.2.1) = sgm (tp ρ.1.2.1) := by rw [y.2.1]; rfl
      have hno2 : nO (sgm (tp ρ.1.2.1) :: ws) = gq := by
        show (if sgm (tp ρ.1.2.1) = -10 then 1 else 0) + nO ws = gq
        rw [if_neg hgn.1, Nat.zero_add]; exact hno
      have hst2 : stl (rkM (sgm (tp ρ.1.2.1))) (cs ++ e1) (pend ++ ws) = (cs ++ me, ws) := by
        rw [y.2.2.1, stl_pnd htop pend _ h6, List.append_assoc, h5]
      have S := hG (avF L tp ρ) W2 (by show 17 ≤ D + ρ.2.2.2.2.2.1 + ρ.2.2.2.2.2.2; rw [hb, hg]; exact hD) hf hk (by show ρ.2.2.2.1.length + 3 ≤ (adv L tp ρ.1).2.1; omega) (cs ++ me) (sgm (tp ρ.1.2.1) :: ws) (at_ + nn) (upd tq' b (tsV (sgm (tp ρ.1.2.1)) (tq' b))) (hno2.trans hg.symm) (fun z => by show upd tq' b _ ρ.2.2.2.2.2.1 = 0; rw [hb, pk_us]; exact tsV_lo (by rw [y.2.2.1]; exact hr4 z)) (Or.inr ⟨_, _, rfl, Or.inr (by rw [y.2.2.1]; exact hrr)⟩)
      have hb2 : (avF L tp ρ).2.2.2.2.2.1 = b := hb
      have TS : ∀ R, TE L tp (nI ky) true b (adv L tp ρ.1, cs ++ me, sgm (tp ρ.1.2.1) :: ws, at_ + nn, upd tq' b (tsV (sgm (tp ρ.1.2.1)) (tq' b))) R → TE L tp (nI ky) true b (ρ0.1, cs, ws, at_, tq) R := fun R t => h10 R (te_sg b ρ.1 (cs ++ e1) (pend ++ ws) (at_ + nn) tq' R _ (fun z => y.2.2.2.2 z.2.1) hgV y.2.2.2.1 (fun z => hr3 (y.2.2.1.symm.trans z.1)) (by rw [hst2]; exact t))
      have K2 := hO (avF L tp ρ) W2 (by show 17 ≤ D + ρ.2.2.2.2.2.1 + ρ.2.2.2.2.2.2; rw [hb, hg]; exact hD)
      rcases hq : (G (avF L tp ρ)).2.1 with _ | q
      · obtain ⟨e2, me2, n2, e12, p2, tq2, g1, g2, g3, g4, g5, g6, g7, g8, g9, g10⟩ := S.2 hq
        rw [hb2] at g7 g8 g9 g10
        have g1' : (G (avF L tp ρ)).2.2.2.1 = ρ.2.2.2.1 ++ e2 := g1
        have g4' : e2.length + (adv L tp ρ.1).2.1 ≤ (G (avF L tp ρ)).1.2.1 := g4
        have k1 := K2.1.1.1
        have k2 := K2.1.1.2.1
        have hl3 : (G (avF L tp ρ)).2.2.2.1.length < 96 := by rw [g1', List.length_append]; omega
        refine ih (emF (-(tp ρ.1.2.1)) (G (avF L tp ρ))) (wr_em K2.1) hq (K2.2.1.trans hk) ?_ ?_ ?_ ?_
        · exact (congrArg (fun z : Nat × Nat => z.1) K2.2.2).trans hb
        · exact (congrArg (fun z : Nat × Nat => z.2) K2.2.2).trans hg
        · show L ≤ m + (G (avF L tp ρ)).1.2.1; omega
        · refine ⟨e ++ e2 ++ [-(tp ρ.1.2.1)], me ++ me2 ++ [sgm (tp ρ.1.2.1)], nn + n2, me ++ e12, p2 ++ [sgm (tp ρ.1.2.1)], tq2, ?_, xe_two (sgm_s _ y.2.2.2.1) h2 g2, ?_, ?_, ?_, ?_, ?_, ?_, g9, ?_⟩
          · show emL (G (avF L tp ρ)).2.2.2.1 (-(tp ρ.1.2.1)) = _
            rw [em_app hl3, g1', h1]; simp only [List.append_assoc]
          · show (G (avF L tp ρ)).2.2.2.2.1 = _
            have g3' : (G (avF L tp ρ)).2.2.2.2.1 = ρ.2.2.2.2.1 + n2 := g3
            rw [g3', h3, Nat.add_assoc]
          · show (e ++ e2 ++ [-(tp ρ.1.2.1)]).length + ρ0.1.2.1 ≤ (G (avF L tp ρ)).1.2.1
            rw [List.length_append, List.length_append, List.length_singleton]; omega
          · rw [← g5]; simp only [List.append_assoc]
          · exact pnd_a _ _ (pnd_le (Int32.le_of_lt hrr) _ g6) ⟨⟨by rw [y.2.2.1]; exact Int32.le_refl _, hgn.2, hgn.1⟩, trivial⟩
          · intro k hk2
            rw [g7 k hk2, pk_un (by omega)]; exact h7 k hk2
          · intro z
            have z2 := g8 (Int32.lt_trans z hrr)
            rw [pk_us] at z2
            exact z2.trans ((tsV_hi (by rw [y.2.2.1]; exact z)).trans (h8 z))
          · intro R t
            refine TS R (g10 R ?_)
            have t2 : TE L tp (nI ky) false b ((G (avF L tp ρ)).1, cs ++ (me ++ e12), p2 ++ [sgm (tp ρ.1.2.1)] ++ ws, at_ + (nn + n2), tq2) R := t
            rw [← List.append_assoc, List.append_assoc p2, ← Nat.add_assoc] at t2
            exact t2
      · have hfl : (emF (-(tp ρ.1.2.1)) (G (avF L tp ρ))).2.1 = some q := hq
        rw [lp_flt (fun ρ z => (hT ρ z).1) m _ (by rw [hfl]; simp)]
        refine ⟨fun q2 z => ?_, fun z => absurd (hfl.symm.trans z) (by simp)⟩
        obtain rfl : q = q2 := Option.some.inj (hfl.symm.trans z)
        have z2 := S.1 q hq
        rw [hb2] at z2
        exact TS _ z2
    · have hstep : lpF L tp G T (m + 1) ρ = ρ := cI_f hTt
      rw [hstep]
      exact ⟨fun q z => absurd (hf.symm.trans z) (by simp), fun _ => hend ρ hf hTt h⟩
