theorem top_out {L : Nat} {tp : Nat → Int32} {j : Nat} {K : Nat × Nat × Nat} {tq : Nat → Int32} {ρ : RS} {R : RT9} (T : TOP L tp j K tq ρ R) : (∀ cs at_, R.1 = some (cs, at_) → 1 ≤ cs.length ∧ cs.length ≤ 96 ∧ at_ ≤ 96) ∧ (R.1 = none → ρ.2.1 = some R.2) ∧ (∀ cs at_, R.1 = some (cs, at_) → ρ.2.1 = none ∧ ρ.2.2.1 = nI j ∧ XE j ρ.2.2.2.1 cs at_ ∧ ρ.2.2.2.2.1 = at_ ∧ ρ.2.2.2.1.length + 3 ≤ 96) := by
  obtain ⟨_, hF, hS⟩ := T
  rcases hq : ρ.2.1 with _ | q
  · obtain ⟨hk, e, me, nn, h1, h2, h3, h4, h5⟩ := hS hq
    have hl := crL_len e me h3.1
    have hc := cntL_le me
    have h31 := h3.2.1
    have h32 := h3.2.2.1
    refine ⟨fun cs at_ z => ?_, fun z => absurd (h4.symm.trans z) (by simp), fun cs at_ z => ?_⟩
    · have y := Option.some.inj (h4.symm.trans z)
      have y1 : me = cs := congrArg Prod.fst y
      have y2 : nn = at_ := congrArg Prod.snd y
      subst y1 y2
      omega
    · have y := Option.some.inj (h4.symm.trans z)
      have y1 : me = cs := congrArg Prod.fst y
      have y2 : nn = at_ := congrArg Prod.snd y
      subst y1 y2
      exact ⟨rfl, hk, by rw [h1]; exact h3, h2, by rw [h1]; exact h5⟩
  · have e := hF q hq
    subst e
    exact ⟨(fun cs at_ z => by cases z), (fun _ => rfl), (fun cs at_ z => by cases z)⟩
set_option maxHeartbeats 2000000 in
theorem m_textF {X : List Int32} {d rc rs n : Nat} {Q : am_Q} {L : Nat} {N : Nat → Int32} {a : Nat → Nat → Int32} {o : Nat → Int32} {h : am_H} (F : MR o N a h) (h9 : o 9 = nI L) (hL : L ≤ 96) {c : Nat} {k : Int32} (hc : N 7 = nI c) (hc14 : c ≤ 14)
    (kF : ∀ q, (ffF L (a 75) k).2.1 = some q → FAILm Q n o N a h (-100 - nI q))
    (kB : (ffF L (a 75) k).2.1 = none → c = 14 → FAILm Q n o N a h (-1000000003))
    (kS : (ffF L (a 75) k).2.1 = none → c < 14 → ∀ j me, j < 3 → (ffF L (a 75) k).2.2.1 = nI j → XE j (ffF L (a 75) k).2.2.2.1 me (ffF L (a 75) k).2.2.2.2.1 → (ffF L (a 75) k).2.2.2.1.length + 3 ≤ 96 → SUCCm Q n o N a h c j me (ffF L (a 75) k).2.2.2.2.1) : AW X mX8_text (d + 6) rc rs 0 [some (.ref 69), none, none, none] [] n h Q := by
  have h0 : upd (a 80) 0 0 0 = 0 := pk_us
  have eK : nx L (a 75) 0 false = adv L (a 75) (0, 0, 0) := rfl
  by_cases z0 : wz0 (a 75) (avF L (a 75) (ρI k))
  · have hr : rkF L (a 75) (avF L (a 75) (ρI k)) = avF L (a 75) (kyF (avF L (a 75) (ρI k)) (nI 0)) := cI_t z0
    have y0 : kz0 (a 75) (nx L (a 75) 0 false).2.1 (nx L (a 75) 0 false).2.2 := z0.2
    obtain ⟨R, T⟩ := top_j (tq := upd (a 80) 0 0) hL (by decide) h0 z0.1 (by have y : (adv L (a 75) (0, 0, 0)).2.2 = (adv L (a 75) (0, 0, 0)).2.1 + 4 := z0.2.1; omega) hr
    obtain ⟨o1, o2, o3⟩ := top_out T
    refine m_text (R0 := R) (R1 := (none, 0)) (R2 := (none, 0)) F h9 hL hc hc14 (fun z => absurd y0 (z z0.1).1) (fun _ _ => T.1) (fun _ _ => o1) (fun _ _ z => kF _ (o2 z)) (fun _ _ cs at_ z => kB (o3 cs at_ z).1) (fun _ _ cs at_ z hc2 => ?_) (fun _ z => absurd y0 z) (fun _ z => absurd y0 z) (fun _ z => absurd y0 z) (fun _ z => absurd y0 z) (fun _ z => absurd y0 z) (fun _ z => absurd y0 z) (fun _ z => absurd y0 z) (fun _ z => absurd y0 z) (fun _ z => absurd y0 z) (fun _ z => absurd y0 z)
    obtain ⟨q1, q2, q3, q4, q5⟩ := o3 cs at_ z
    have q := kS q1 hc2 0 cs (by decide) q2 (by rw [q4]; exact q3) q5
    rw [q4] at q
    exact q
  · have n0 : (nx L (a 75) 0 false).1 = 1 → ¬ kz0 (a 75) (nx L (a 75) 0 false).2.1 (nx L (a 75) 0 false).2.2 := fun x y => z0 ⟨x, y⟩
    by_cases z1 : wz1 (a 75) (avF L (a 75) (ρI k))
    · have hr : rkF L (a 75) (avF L (a 75) (ρI k)) = avF L (a 75) (kyF (avF L (a 75) (ρI k)) (nI 1)) := (cI_f z0).trans (cI_t z1)
      have y1 : kz1 (a 75) (nx L (a 75) 0 false).2.1 (nx L (a 75) 0 false).2.2 := z1.2
      obtain ⟨R, T⟩ := top_j (tq := upd (a 80) 0 0) hL (by decide) h0 z1.1 (by have y : (adv L (a 75) (0, 0, 0)).2.2 = (adv L (a 75) (0, 0, 0)).2.1 + 3 := z1.2.1; omega) hr
      obtain ⟨o1, o2, o3⟩ := top_out T
      refine m_text (R0 := (none, 0)) (R1 := R) (R2 := (none, 0)) F h9 hL hc hc14 (fun z => absurd y1 (z z1.1).2.1) (fun x y => absurd y (n0 x)) (fun x y => absurd y (n0 x)) (fun x y => absurd y (n0 x)) (fun x y => absurd y (n0 x)) (fun x y => absurd y (n0 x)) (fun _ _ _ => T.1) (fun _ _ _ => o1) (fun _ _ _ z => kF _ (o2 z)) (fun _ _ _ cs at_ z => kB (o3 cs at_ z).1) (fun _ _ _ cs at_ z hc2 => ?_) (fun _ _ z => absurd y1 z) (fun _ _ z => absurd y1 z) (fun _ _ z => absurd y1 z) (fun _ _ z => absurd y1 z) (fun _ _ z => absurd y1 z)
      obtain ⟨q1, q2, q3, q4, q5⟩ := o3 cs at_ z
      have q := kS q1 hc2 1 cs (by decide) q2 (by rw [q4]; exact q3) q5
      rw [q4] at q
      exact q
    · have n1 : (nx L (a 75) 0 false).1 = 1 → ¬ kz1 (a 75) (nx L (a 75) 0 false).2.1 (nx L (a 75) 0 false).2.2 := fun x y => z1 ⟨x, y⟩
      by_cases z2 : wz2 (a 75) (avF L (a 75) (ρI k))
      · have hr : rkF L (a 75) (avF L (a 75) (ρI k)) = avF L (a 75) (kyF (avF L (a 75) (ρI k)) (nI 2)) := (cI_f z0).trans ((cI_f z1).trans (cI_t z2))
        have y2 : kz2 (a 75) (nx L (a 75) 0 false).2.1 (nx L (a 75) 0 false).2.2 := z2.2
        obtain ⟨R, T⟩ := top_j (tq := upd (a 80) 0 0) hL (by decide) h0 z2.1 (by have y : (adv L (a 75) (0, 0, 0)).2.2 = (adv L (a 75) (0, 0, 0)).2.1 + 4 := z2.2.1; omega) hr
        obtain ⟨o1, o2, o3⟩ := top_out T
        refine m_text (R0 := (none, 0)) (R1 := (none, 0)) (R2 := R) F h9 hL hc hc14 (fun z => absurd y2 (z z2.1).2.2) (fun x y => absurd y (n0 x)) (fun x y => absurd y (n0 x)) (fun x y => absurd y (n0 x)) (fun x y => absurd y (n0 x)) (fun x y => absurd y (n0 x)) (fun x _ y => absurd y (n1 x)) (fun x _ y => absurd y (n1 x)) (fun x _ y => absurd y (n1 x)) (fun x _ y => absurd y (n1 x)) (fun x _ y => absurd y (n1 x)) (fun _ _ _ _ => T.1) (fun _ _ _ _ => o1) (fun _ _ _ _ z => kF _ (o2 z)) (fun _ _ _ _ cs at_ z => kB (o3 cs at_ z).1) (fun _ _ _ _ cs at_ z hc2 => ?_)
        obtain ⟨q1, q2, q3, q4, q5⟩ := o3 cs at_ z
        have q := kS q1 hc2 2 cs (by decide) q2 (by rw [q4]; exact q3) q5
        rw [q4] at q
        exact q
      · have n2 : (nx L (a 75) 0 false).1 = 1 → ¬ kz2 (a 75) (nx L (a 75) 0 false).2.1 (nx L (a 75) 0 false).2.2 := fun x y => z2 ⟨x, y⟩
        exact m_text (R0 := (none, 0)) (R1 := (none, 0)) (R2 := (none, 0)) F h9 hL hc hc14 (fun _ => kF _ (ff_no z0 z1 z2)) (fun x y => absurd y (n0 x)) (fun x y => absurd y (n0 x)) (fun x y => absurd y (n0 x)) (fun x y => absurd y (n0 x)) (fun x y => absurd y (n0 x)) (fun x _ y => absurd y (n1 x)) (fun x _ y => absurd y (n1 x)) (fun x _ y => absurd y (n1 x)) (fun x _ y => absurd y (n1 x)) (fun x _ y => absurd y (n1 x)) (fun x _ _ y => absurd y (n2 x)) (fun x _ _ y => absurd y (n2 x)) (fun x _ _ y => absurd y (n2 x)) (fun x _ _ y => absurd y (n2 x)) (fun x _ _ y => absurd y (n2 x))
