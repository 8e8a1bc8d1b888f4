theorem sp_all {L : Nat} {tp : Nat → Int32} {ky : Nat} (hky : ky < 3) : SpG L tp ky 17 1 (orF L tp (pcF L tp 17)) := by
  have hO := pc_ok (L := L) (tp := tp) 17
  exact sp_or (sp_and (sp_test (sp_sum (sp_prod (sp_6 (sp_piece hky 17)) hO) hO) hO) hO) hO
def TOP (L : Nat) (tp : Nat → Int32) (j : Nat) (K : Nat × Nat × Nat) (tq : Nat → Int32) (ρ : RS) (R : RT9) : Prop := TE L tp (nI j) true 0 (K, [], [], 0, tq) R ∧ (∀ q, ρ.2.1 = some q → R = (none, q)) ∧ (ρ.2.1 = none → ρ.2.2.1 = nI j ∧ ∃ e me nn, ρ.2.2.2.1 = e ∧ ρ.2.2.2.2.1 = nn ∧ XE j e me nn ∧ R.1 = some (me, nn) ∧ e.length + 3 ≤ 96)
theorem top_j {L : Nat} {tp : Nat → Int32} {j : Nat} {k : Int32} {tq : Nat → Int32} (hL : L ≤ 96) (hj : j < 3) (h0 : tq 0 = 0) (h1 : (adv L tp (0, 0, 0)).1 = 1) (h3 : (adv L tp (0, 0, 0)).2.1 + 3 ≤ (adv L tp (0, 0, 0)).2.2) (hr : rkF L tp (avF L tp (ρI k)) = avF L tp (kyF (avF L tp (ρI k)) (nI j))) : ∃ R, TOP L tp j (adv L tp (adv L tp (0, 0, 0))) tq (ffF L tp k) R := by
  have W1 := wr_I (L := L) (tp := tp) (k := k) hL
  have W2 : WR L tp (avF L tp (kyF (avF L tp (ρI k)) (nI j))) := wr_av (wr_ky W1)
  have wk0 : WFK L tp (adv L tp (0, 0, 0)) := W1.1
  have wk2 := adv_wf wk0
  have w22 := wk2.2
  have S := sp_all (L := L) (tp := tp) hj (avF L tp (kyF (avF L tp (ρI k)) (nI j))) W2 (by show 17 ≤ 17 + 0 + 0; omega) rfl rfl (by show 0 + 3 ≤ (adv L tp (adv L tp (0, 0, 0))).2.1; omega) [] [] 0 tq rfl (fun _ => h0) (Or.inl rfl)
  have K2 := or_ok (pc_ok (L := L) (tp := tp) 17) (avF L tp (kyF (avF L tp (ρI k)) (nI j))) W2 (by show 17 ≤ 17 + 0 + 0; omega)
  rw [← hr] at S K2
  have hC : orF L tp (pcF L tp 17) (rkF L tp (avF L tp (ρI k))) = ffC L tp k := rfl
  rw [hC] at S K2
  have wk3 := K2.1.1
  have hkey : (ffC L tp k).2.2.1 = nI j := K2.2.1.trans (by rw [hr]; rfl)
  have hK : (rkF L tp (avF L tp (ρI k))).1 = adv L tp (adv L tp (0, 0, 0)) := by rw [hr]; rfl
  have hb : (rkF L tp (avF L tp (ρI k))).2.2.2.2.2.1 = 0 := by rw [hr]; rfl
  have hcd : (rkF L tp (avF L tp (ρI k))).2.2.2.1 = [] := by rw [hr]; rfl
  have hop : (rkF L tp (avF L tp (ρI k))).2.2.2.2.1 = 0 := by rw [hr]; rfl
  rcases hq : (ffC L tp k).2.1 with _ | q
  · obtain ⟨e, me, nn, e1, pend, tq', g1, g2, g3, g4, g5, g6, g7, g8, g9, g10⟩ := S.2 hq
    rw [hb] at g9 g10
    rw [hK] at g4 g10
    rw [hcd] at g1
    rw [hop] at g3
    have g1' : (ffC L tp k).2.2.2.1 = e := g1
    have g3' : (ffC L tp k).2.2.2.2.1 = nn := g3.trans (Nat.zero_add _)
    have g4' : e.length + (adv L tp (adv L tp (0, 0, 0))).2.1 ≤ (ffC L tp k).1.2.1 := g4
    have hs0 : stl 0 ([] ++ e1) (pend ++ []) = (me, []) := by
      rw [stl_pnd (Or.inl rfl) pend _ (pnd_le (by decide) _ g6), List.nil_append, g5]
    by_cases z0 : (ffC L tp k).1.1 = 0
    · have ef : ffF L tp k = ffC L tp k := cI_t z0
      rw [ef]
      have t := te_E1 (L := L) (tp := tp) (y := nI j) 0 (ffC L tp k).1 ([] ++ e1) (pend ++ []) (0 + nn) tq' z0 rfl
      rw [hs0] at t
      have a1 := wk3.1
      have a2 := wk3.2.1
      refine ⟨_, g10 _ t, fun q z => absurd (hq.symm.trans z) (by simp), fun _ => ⟨hkey, e, me, nn, g1', g3', g2, ?_, by omega⟩⟩
      show some (me, 0 + nn) = some (me, nn)
      rw [Nat.zero_add]
    · have ef : ffF L tp k = flF (ffC L tp k) := cI_f z0
      have e11 : (flF (ffC L tp k)).2.1 = some (ffC L tp k).1.2.1 := by show flO (ffC L tp k).2.1 (ffC L tp k).1.2.1 = _; rw [hq]; rfl
      rw [ef]
      refine ⟨(none, (ffC L tp k).1.2.1), g10 _ (te_nn 0 (ffC L tp k).1 _ _ _ _ z0 (fun z => absurd z.2.2 (by decide)) ?_), fun q z => ?_, fun z => absurd (e11.symm.trans z) (by simp)⟩
      · rcases g9 with x | x | x
        · exact Or.inl x
        · exact absurd x (Int32.not_lt.mpr (rkM_le _).1)
        · exact Or.inr ⟨x.1, x.2.1⟩
      · rw [Option.some.inj (e11.symm.trans z)]
  · have t := S.1 q hq
    rw [hb, hK] at t
    have e11 : (ffF L tp k).2.1 = some q := by
      by_cases z0 : (ffC L tp k).1.1 = 0
      · rw [show ffF L tp k = ffC L tp k from cI_t z0]; exact hq
      · rw [show ffF L tp k = flF (ffC L tp k) from cI_f z0]
        show flO (ffC L tp k).2.1 (ffC L tp k).1.2.1 = _
        rw [hq]; rfl
    exact ⟨(none, q), t, fun q2 z => by rw [Option.some.inj (e11.symm.trans z)], fun z => absurd (e11.symm.trans z) (by simp)⟩
