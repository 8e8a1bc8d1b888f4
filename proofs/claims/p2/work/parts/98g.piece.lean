def SpP (L : Nat) (tp : Nat → Int32) (ky D : Nat) (G : RS → RS) : Prop := ∀ ρ, WR L tp ρ → 17 ≤ D + ρ.2.2.2.2.2.1 + ρ.2.2.2.2.2.2 → ρ.2.1 = none → ρ.2.2.1 = nI ky → ρ.2.2.2.1.length + 3 ≤ ρ.1.2.1 → ∀ cs ws at_ tq, nO ws = ρ.2.2.2.2.2.2 →
  (∀ q, (G ρ).2.1 = some q → TE L tp (nI ky) true ρ.2.2.2.2.2.1 (ρ.1, cs, ws, at_, tq) (none, q)) ∧ ((G ρ).2.1 = none → ∃ e me nn tq', (G ρ).2.2.2.1 = ρ.2.2.2.1 ++ e ∧ XE ky e me nn ∧ (G ρ).2.2.2.2.1 = ρ.2.2.2.2.1 + nn ∧ e.length + ρ.1.2.1 ≤ (G ρ).1.2.1 ∧ (∀ k, k ≤ ρ.2.2.2.2.2.1 → tq' k = tq k) ∧ ∀ R, TE L tp (nI ky) false ρ.2.2.2.2.2.1 ((G ρ).1, (stl 6 (cs ++ me) ws).1, (stl 6 (cs ++ me) ws).2, at_ + nn, tq') R → TE L tp (nI ky) true ρ.2.2.2.2.2.1 (ρ.1, cs, ws, at_, tq) R)
theorem sg6 (b : Int32) (h : sgm b ≠ 0) : rkM (sgm b) < 6 := by
  have z := sgm_s b h
  rcases z with ⟨z, _⟩ | ⟨z, _⟩ | ⟨z, _⟩ | ⟨z, _⟩ | ⟨z, _⟩ | ⟨z, _⟩ | ⟨z, _⟩ | ⟨z, _⟩ | ⟨z, _⟩ <;> (rw [z]; decide)
theorem sp_6 {L : Nat} {tp : Nat → Int32} {ky D : Nat} {G : RS → RS} (h : SpP L tp ky D G) : SpG L tp ky D 6 G := by
  intro ρ W hd hf hk hc cs ws at_ tq hno _ htop
  have S := h ρ W hd hf hk hc cs ws at_ tq hno
  refine ⟨S.1, fun z => ?_⟩
  obtain ⟨e, me, nn, tq', h1, h2, h3, h4, h5, h6⟩ := S.2 z
  refine ⟨e, me, nn, me, [], tq', h1, h2, h3, h4, List.append_nil _, trivial, (fun k hk => h5 k (by omega)), (fun _ => by rw [h5 _ (Nat.le_refl _)]), ?_, fun R t => h6 R ?_⟩
  · by_cases ez : sgV (G ρ).1.1 (tp (G ρ).1.2.1) = 0
    · exact Or.inl ez
    · obtain ⟨z1, z2, z3⟩ := sgV_z ez
      exact Or.inr (Or.inl (by rw [z2]; exact sg6 _ z3))
  · rw [stl_top htop]; exact t
theorem nm_lt2 {ky v j : Nat} (hk : ky < 3) (h : nmF (nmS (nI ky)) v = some j) : j < nmk ky := by
  rcases (show ky = 0 ∨ ky = 1 ∨ ky = 2 by omega) with rfl | rfl | rfl
  · have e : nmS (nI 0) = 3 := rfl
    rw [e] at h
    unfold nmF at h
    rw [if_pos rfl] at h
    show j < 3
    repeat' split at h
    all_goals first | (have z := Option.some.inj h; omega) | cases h
  · have e : nmS (nI 1) = 4 := rfl
    rw [e] at h
    unfold nmF at h
    rw [if_neg (by decide), if_pos rfl] at h
    show j < 2
    repeat' split at h
    all_goals first | (have z := Option.some.inj h; omega) | cases h
  · have e : nmS (nI 2) = 5 := rfl
    rw [e] at h
    unfold nmF at h
    rw [if_neg (by decide), if_neg (by decide)] at h
    show j < 2
    repeat' split at h
    all_goals first | (have z := Option.some.inj h; omega) | cases h
theorem nm_eq {tp : Nat → Int32} {ρ : RS} : nameO tp ρ = nmK ρ.2.2.1 tp ρ.1 := rfl
theorem stl_not {cs ws : List Int32} : stl 6 cs ((-10) :: ws) = stl 6 (cs ++ [-10]) ws := by
  rw [stl, if_neg (by decide)]
set_option maxHeartbeats 2000000 in
theorem sp_piece {L : Nat} {tp : Nat → Int32} {ky : Nat} (hky : ky < 3) : ∀ (D : Nat), SpP L tp ky D (pcF L tp D) := by
  intro D
  induction D with
  | zero =>
    intro ρ W hd
    have a := W.2.2.2.1
    have b := W.2.2.2.2.1
    omega
  | succ D ih =>
    intro ρ W hd hf hk hc cs ws at_ tq hno
    have hO := pc_ok (L := L) (tp := tp) D
    have hOr := sp_or (sp_and (sp_test (sp_sum (sp_prod (sp_6 ih) hO) hO) hO) hO) hO
    have wk := W.1
    have w1 := wk.1
    have w2 := wk.2.1
    have w96 := W.2.1
    have hl : ρ.2.2.2.1.length < 96 := by omega
    by_cases k2 : ρ.1.1 = 2
    · have e9 : pcF L tp (D + 1) ρ = avF L tp (eoF (numF tp ρ) ρ) := (cI_t hf).trans (cI_t k2)
      rw [e9]
      have hu := adv_up wk (by omega)
      obtain ⟨v, hv, ev⟩ := num_v wk k2
      have ev' : numF tp ρ = nI v := ev
      refine ⟨fun q z => absurd (hf.symm.trans z) (by simp), fun _ => ⟨[nI v], [nI v], 1, tq, ?_, xe_num hv, rfl, ?_, fun _ _ => rfl, fun R t => ?_⟩⟩
      · show emL ρ.2.2.2.1 (numF tp ρ) = _
        rw [em_app hl, ev']
      · show 1 + ρ.1.2.1 ≤ (adv L tp ρ.1).2.1
        have z := hu.2; omega
      · refine te_pt _ ρ.1 cs ws at_ tq R (nI v) (fun z => by have y := z.1; omega) (fun z => by have y := z.1; omega) ?_ t
        rw [← ev]; exact if_pos k2
    · rcases hn : nameO tp ρ with _ | j
      · by_cases c33 : isSg tp ρ 33 ∧ ρ.2.2.2.2.2.2 < 8
        · have e9 : pcF L tp (D + 1) ρ = emF (-33) (ogF (pcF L tp D (avF L tp (ogF ρ (ρ.2.2.2.2.2.2 + 1)))) ρ.2.2.2.2.2.2) := (cI_t hf).trans ((cI_f k2).trans (by rw [hn]; exact cI_t c33))
          rw [e9]
          have hu := adv_up wk (by have z := c33.1.2.1; omega)
          have hu2 : ρ.1.2.1 + 1 ≤ (adv L tp ρ.1).2.1 := hu.2
          have W2 : WR L tp (avF L tp (ogF ρ (ρ.2.2.2.2.2.2 + 1))) := wr_av (wr_og (by omega) W)
          have hd2 : 17 ≤ D + ρ.2.2.2.2.2.1 + (ρ.2.2.2.2.2.2 + 1) := by omega
          have S := ih (avF L tp (ogF ρ (ρ.2.2.2.2.2.2 + 1))) W2 hd2 hf hk (by show ρ.2.2.2.1.length + 3 ≤ (adv L tp ρ.1).2.1; omega) cs ((-10) :: ws) at_ tq (by show (if (-10 : Int32) = -10 then 1 else 0) + nO ws = ρ.2.2.2.2.2.2 + 1; rw [if_pos rfl, hno]; omega)
          have K2 := hO (avF L tp (ogF ρ (ρ.2.2.2.2.2.2 + 1))) W2 hd2
          have TS : ∀ R, TE L tp (nI ky) true ρ.2.2.2.2.2.1 (adv L tp ρ.1, cs, (-10) :: ws, at_, tq) R → TE L tp (nI ky) true ρ.2.2.2.2.2.1 (ρ.1, cs, ws, at_, tq) R := fun R t => te_33 _ ρ.1 cs ws at_ tq R ⟨c33.1.2.1, c33.1.2.2, by rw [hno]; exact c33.2⟩ t
          refine ⟨fun q z => TS _ (S.1 q z), fun z => ?_⟩
          obtain ⟨e, me, nn, tq', h1, h2, h3, h4, h5, h6⟩ := S.2 z
          have h1' : (pcF L tp D (avF L tp (ogF ρ (ρ.2.2.2.2.2.2 + 1)))).2.2.2.1 = ρ.2.2.2.1 ++ e := h1
          have h4' : e.length + (adv L tp ρ.1).2.1 ≤ (pcF L tp D (avF L tp (ogF ρ (ρ.2.2.2.2.2.2 + 1)))).1.2.1 := h4
          have k1 := K2.1.1.1
          have k22 := K2.1.1.2.1
          have hl3 : (pcF L tp D (avF L tp (ogF ρ (ρ.2.2.2.2.2.2 + 1)))).2.2.2.1.length < 96 := by rw [h1', List.length_append]; omega
          refine ⟨e ++ [-33], me ++ [-10], nn, tq', ?_, xe_not h2, h3, ?_, h5, fun R t => TS R (h6 R ?_)⟩
          · show emL (pcF L tp D (avF L tp (ogF ρ (ρ.2.2.2.2.2.2 + 1)))).2.2.2.1 (-33) = _
            rw [em_app hl3, h1', List.append_assoc]
          · show (e ++ [-33]).length + ρ.1.2.1 ≤ (pcF L tp D (avF L tp (ogF ρ (ρ.2.2.2.2.2.2 + 1)))).1.2.1
            rw [List.length_append, List.length_singleton]; omega
          · rw [stl_not, List.append_assoc]; exact t
        · by_cases c40 : isSg tp ρ 40 ∧ ρ.2.2.2.2.2.1 < 8
          · have e9 : pcF L tp (D + 1) ρ = cbF L tp (obF (orF L tp (pcF L tp D) (avF L tp (obF ρ (ρ.2.2.2.2.2.1 + 1)))) ρ.2.2.2.2.2.1) := (cI_t hf).trans ((cI_f k2).trans (by rw [hn]; exact (cI_f c33).trans (cI_t c40)))
            rw [e9]
            have hu := adv_up wk (by have z := c40.1.2.1; omega)
            have hu2 : ρ.1.2.1 + 1 ≤ (adv L tp ρ.1).2.1 := hu.2
            have W2 : WR L tp (avF L tp (obF ρ (ρ.2.2.2.2.2.1 + 1))) := wr_av (wr_ob (by omega) W)
            have hd2 : 17 ≤ D + (ρ.2.2.2.2.2.1 + 1) + ρ.2.2.2.2.2.2 := by omega
            have S := hOr (avF L tp (obF ρ (ρ.2.2.2.2.2.1 + 1))) W2 hd2 hf hk (by show ρ.2.2.2.1.length + 3 ≤ (adv L tp ρ.1).2.1; omega) cs ((-11) :: ws) at_ (upd tq (ρ.2.2.2.2.2.1 + 1) 0) (by show (if (-11 : Int32) = -10 then 1 else 0) + nO ws = ρ.2.2.2.2.2.2; rw [if_neg (by decide), hno]; omega) (fun _ => pk_us) (Or.inr ⟨_, _, rfl, Or.inl rfl⟩)
            have K2 := or_ok hO (avF L tp (obF ρ (ρ.2.2.2.2.2.1 + 1))) W2 hd2
            have TS : ∀ R, TE L tp (nI ky) true (ρ.2.2.2.2.2.1 + 1) (adv L tp ρ.1, cs, (-11) :: ws, at_, upd tq (ρ.2.2.2.2.2.1 + 1) 0) R → TE L tp (nI ky) true ρ.2.2.2.2.2.1 (ρ.1, cs, ws, at_, tq) R := fun R t => te_40 _ ρ.1 cs ws at_ tq R (fun z => absurd (c40.1.2.2.symm.trans z.2.1) (by decide)) ⟨c40.1.2.1, c40.1.2.2, c40.2⟩ t
            generalize hρ3 : orF L tp (pcF L tp D) (avF L tp (obF ρ (ρ.2.2.2.2.2.1 + 1))) = ρ3 at *
            have wk3 := K2.1.1
            rcases hq : ρ3.2.1 with _ | q
            · obtain ⟨e, me, nn, e1, pend, tq', h1, h2, h3, h4, h5, h6, h7, h8, h9, h10⟩ := S.2 hq
              have h4' : e.length + (adv L tp ρ.1).2.1 ≤ ρ3.1.2.1 := h4
              by_cases c41 : isSg tp (obF ρ3 ρ.2.2.2.2.2.1) 41
              · have e10 : cbF L tp (obF ρ3 ρ.2.2.2.2.2.1) = avF L tp (obF ρ3 ρ.2.2.2.2.2.1) := cI_t c41
                rw [e10]
                have t3 : ρ3.1.1 = 3 := c41.2.1
                have hu3 := adv_up wk3 (by omega)
                have hu4 : ρ3.1.2.1 + 1 ≤ (adv L tp ρ3.1).2.1 := hu3.2
                refine ⟨fun q z => absurd (hq.symm.trans z) (by simp), fun _ => ⟨e, me, nn, tq', h1, h2, h3, ?_, ?_, fun R t => TS R (h10 R ?_)⟩⟩
                · show e.length + ρ.1.2.1 ≤ (adv L tp ρ3.1).2.1; omega
                · intro k hk2
                  rw [h7 k (by show k < ρ.2.2.2.2.2.1 + 1; omega), pk_un (by omega)]
                · have hs0 : stl 0 (cs ++ e1) (pend ++ (-11) :: ws) = (cs ++ me, (-11) :: ws) := by
                    rw [stl_pnd (Or.inr ⟨_, _, rfl, Or.inl rfl⟩) pend _ (pnd_le (by decide) _ h6), List.append_assoc, h5]
                  exact te_41 (ρ.2.2.2.2.2.1 + 1) ρ3.1 (cs ++ e1) (pend ++ (-11) :: ws) (at_ + nn) tq' R (cs ++ me) ws ⟨t3, c41.2.2, by omega⟩ hs0 t
              · have e10 : cbF L tp (obF ρ3 ρ.2.2.2.2.2.1) = flF (obF ρ3 ρ.2.2.2.2.2.1) := cI_f c41
                have e11 : (flF (obF ρ3 ρ.2.2.2.2.2.1)).2.1 = some ρ3.1.2.1 := by show flO ρ3.2.1 ρ3.1.2.1 = _; rw [hq]; rfl
                rw [e10]
                refine ⟨fun q z => ?_, fun z => absurd (e11.symm.trans z) (by simp)⟩
                obtain rfl : ρ3.1.2.1 = q := Option.some.inj (e11.symm.trans z)
                refine TS _ (h10 _ ?_)
                by_cases z0 : ρ3.1.1 = 0
                · exact te_E0 _ ρ3.1 _ _ _ _ z0 (by show ¬ ρ.2.2.2.2.2.1 + 1 = 0; omega)
                · refine te_nn _ ρ3.1 _ _ _ _ z0 (fun z => c41 ⟨hq, z.1, z.2.1⟩) ?_
                  rcases h9 with x | x | x
                  · exact Or.inl x
                  · exact absurd x (Int32.not_lt.mpr (rkM_le _).1)
                  · exact Or.inr ⟨x.1, x.2.1⟩
            · have e10 : cbF L tp (obF ρ3 ρ.2.2.2.2.2.1) = flF (obF ρ3 ρ.2.2.2.2.2.1) := cI_f (fun z => by have y : ρ3.2.1 = none := z.1; rw [hq] at y; cases y)
              have e11 : (flF (obF ρ3 ρ.2.2.2.2.2.1)).2.1 = some q := by show flO ρ3.2.1 ρ3.1.2.1 = _; rw [hq]; rfl
              rw [e10]
              refine ⟨fun q2 z => ?_, fun z => absurd (e11.symm.trans z) (by simp)⟩
              obtain rfl : q = q2 := Option.some.inj (e11.symm.trans z)
              exact TS _ (S.1 q hq)
          · have e9 : pcF L tp (D + 1) ρ = flF ρ := (cI_t hf).trans ((cI_f k2).trans (by rw [hn]; exact (cI_f c33).trans (cI_f c40)))
            rw [e9]
            have e11 : (flF ρ).2.1 = some ρ.1.2.1 := by show flO ρ.2.1 ρ.1.2.1 = _; rw [hf]; rfl
            refine ⟨fun q z => ?_, fun z => absurd (e11.symm.trans z) (by simp)⟩
            obtain rfl : ρ.1.2.1 = q := Option.some.inj (e11.symm.trans z)
            refine te_no _ ρ.1 cs ws at_ tq (fun z => c33 ⟨⟨hf, z.1, z.2.1⟩, by have y := z.2.2; rw [hno] at y; exact y⟩) (fun z => c40 ⟨⟨hf, z.1, z.2.1⟩, z.2.2⟩) ?_
            unfold ptO
            rw [if_neg k2, ← hk, ← nm_eq, hn]; rfl
      · have e9 : pcF L tp (D + 1) ρ = avF L tp (eoF (-1 - nI j) ρ) := (cI_t hf).trans ((cI_f k2).trans (by rw [hn]))
        rw [e9]
        have hn2 : nmK (nI ky) tp ρ.1 = some j := by rw [← hk, ← nm_eq]; exact hn
        have hk1 : ρ.1.1 = 1 ∧ ρ.1.2.2 = ρ.1.2.1 + 1 := by
          unfold nmK at hn2
          split at hn2
          · assumption
          · cases hn2
        have hj : j < nmk ky := by
          unfold nmK at hn2
          rw [if_pos hk1] at hn2
          exact nm_lt2 hky hn2
        have hu := adv_up wk (by omega)
        refine ⟨fun q z => absurd (hf.symm.trans z) (by simp), fun _ => ⟨[-1 - nI j], [nI (10000 + j)], 1, tq, em_app hl, xe_name hj, rfl, ?_, fun _ _ => rfl, fun R t => ?_⟩⟩
        · show 1 + ρ.1.2.1 ≤ (adv L tp ρ.1).2.1
          have z := hu.2; omega
        · refine te_pt _ ρ.1 cs ws at_ tq R (nI (10000 + j)) (fun z => by have y := z.1; omega) (fun z => by have y := z.1; omega) ?_ t
          unfold ptO
          rw [if_neg k2, hn2]; rfl
