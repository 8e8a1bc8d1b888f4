theorem goF_k {c fr : Nat} {wo : Int32} {k : Nat} (hfr : fr ≤ 8) (h0 : k ≠ 0) (h2 : k ≠ 2) (h6 : k ≠ 6) (h3 : k ≠ 3) (h8 : k < 8 ∨ 12 ≤ k) (hf : ∀ f, f < fr → k ≠ 25 + 5 * f ∧ k ≠ 26 + 5 * f) : ∀ (m : Nat) (N : Nat → Int32), goF c fr wo m N k = N k := by
  intro m
  induction m with
  | zero => intro N; rfl
  | succ m ih =>
    intro N
    show goF c fr wo m (postF c fr wo N) k = N k
    rw [ih]
    unfold postF
    by_cases q : peace N ∨ duel N
    · rw [cI_t q]; exact pk_un h2
    · rw [cI_f q, pk_un h2]; exact core_k hfr h0 h6 h3 h8 hf
theorem goF_62 {c fr m j : Nat} {wo : Int32} {N : Nat → Int32} (hfr : fr ≤ 8) (hj : 62 ≤ j) : goF c fr wo m N j = N j := goF_k hfr (by omega) (by omega) (by omega) (by omega) (by omega) (by omega) m N
theorem rk_go {c fr : Nat} {wo : Int32} : ∀ (m : Nat) (N : Nat → Int32), RK N fr c → RK (goF c fr wo m N) fr c := by
  intro m
  induction m with
  | zero => intro N H; exact H
  | succ m ih => intro N H; exact ih _ (rk_post H)
theorem tc_go {tb : TB} {tx : List Value} {lk : Nat → Int32} {c fr m : Nat} {wo : Int32} {N : Nat → Int32} (hfr : fr ≤ 8) (H : TC tb tx lk N c) : TC tb tx lk (goF c fr wo m N) c := tc_keep (goF_k hfr (by omega) (by omega) (by omega) (by omega) (by omega) (by omega) m N) (fun k hk => goF_62 hfr hk) H
theorem tc_u {tb : TB} {tx : List Value} {lk N : Nat → Int32} {c k : Nat} {v : Int32} (h7 : 7 ≠ k) (h62 : k < 62) (H : TC tb tx lk N c) : TC tb tx lk (upd N k v) c := tc_keep (pk_un h7) (fun j hj => pk_un (by omega)) H
theorem rk_u {N : Nat → Int32} {fr c k : Nat} {v : Int32} (H : RK N fr c) (h1 : 1 ≠ k) (h7 : 7 ≠ k) (hk : ∀ f, f < 8 → 22 + 5 * f = k → wi v 0 5) (hs : ∀ f, f < 8 → 23 + 5 * f = k → wi v 0 1) (hp : ∀ f, f < 8 → 24 + 5 * f = k → wi v 0 99) (h8 : ∀ t, t < 4 → 8 + t = k → wi v 0 9) (h12 : ∀ j, j < 8 → 12 + j = k → wi v 0 9) (h3 : 3 = k → wi v 0 99) : RK (upd N k v) fr c := by
  obtain ⟨g1, g2, g3, g4, g5, g6, g7, g8⟩ := H
  have key : ∀ (j : Nat) (lo hi : Int32), wi (N j) lo hi → (j = k → wi v lo hi) → wi (upd N k v j) lo hi := fun j lo hi a b => by
    by_cases e : j = k
    · subst e; rw [pk_us]; exact b rfl
    · rw [pk_un e]; exact a
  exact ⟨(pk_un h1).trans g1, g2, (pk_un h7).trans g3, g4, fun f hf => ⟨key _ _ _ (g5 f hf).1 (hk f hf), key _ _ _ (g5 f hf).2.1 (hs f hf), key _ _ _ (g5 f hf).2.2 (hp f hf)⟩, fun t ht => key _ _ _ (g6 t ht) (h8 t ht), fun j hj => key _ _ _ (g7 j hj) (h12 j hj), key _ _ _ g8 h3⟩
theorem rk_heat {N : Nat → Int32} {fr c : Nat} {v : Int32} (hv : wi v 0 99) (H : RK N fr c) : RK (upd N 3 v) fr c := rk_u H (by omega) (by omega) (by omega) (by omega) (by omega) (by omega) (by omega) (fun _ => hv)
theorem rk_kind {N : Nat → Int32} {fr c f : Nat} {v : Int32} (hv : wi v 0 5) (hf : f < 8) (H : RK N fr c) : RK (upd N (22 + 5 * f) v) fr c := rk_u H (by omega) (by omega) (fun _ _ _ => hv) (by omega) (by omega) (by omega) (by omega) (by omega)
theorem rk_care {N : Nat → Int32} {fr c j : Nat} {v : Int32} (hv : wi v 0 9) (hj : j < 8) (H : RK N fr c) : RK (upd N (12 + j) v) fr c := rk_u H (by omega) (by omega) (by omega) (by omega) (by omega) (by omega) (fun _ _ _ => hv) (by omega)
def TQ (h : am_H) : Prop := ∃ (N1 : Nat → Int32) (tx1 : List Value) (lk1 mv1 : Nat → Int32), QR 13 N1 tx1 lk1 mv1 h ∧ tx1.length = 14
def tvF (key : Int32) (N : Nat → Int32) (c : Nat) (x y w : Int32) : Int32 := match cntM key N c with
  | none => w
  | some t => evF (f2z x y) (fun z9 => N (90 + 96 * t + z9)) (lcF N t)
theorem tvF_n {key : Int32} {N : Nat → Int32} {c : Nat} {x y w : Int32} (h : cntM key N c = none) : tvF key N c x y w = w := by
  unfold tvF; rw [h]
theorem tvF_s {key : Int32} {N : Nat → Int32} {c t : Nat} {x y w : Int32} (h : cntM key N c = some t) : tvF key N c x y w = evF (f2z x y) (fun z9 => N (90 + 96 * t + z9)) (lcF N t) := by
  unfold tvF; rw [h]
theorem tv_c {tb : TB} {tx : List Value} {lk N : Nat → Int32} {c k : Nat} {x y z w v : Int32} (H : TC tb tx lk N c) (hk : k < 3) (hk0 : k ≠ 0) (h : TVr k tb tx lk N x y z w v) : v = tvF (nI k) N c x y w := by
  rcases h with ⟨h1, rfl⟩ | ⟨t, a, sf, h1, h2, h3, h4, rfl⟩
  · cases ec : cntM (nI k) N c with
    | none => exact (tvF_n ec).symm
    | some t => exact absurd (tc_wi H hk ec) h1
  · cases ec : cntM (nI k) N c with
    | none => exact absurd h1 (tc_nwi H hk ec)
    | some u =>
      have e := H.2.2.1 k hk
      rw [ec, h2] at e
      have hu := (cntM_lt ec).1
      have h14 := H.1.2.1
      have ht : t < 14 := by
        have z := (List.getElem?_eq_some_iff.mp h4).1
        rw [H.1.1] at z
        exact z
      obtain rfl := nIi (by omega) (by omega) e
      rw [tvF_s ec]
      exact ev_c H hk ec h4 rfl rfl (fun q => absurd q hk0)
theorem tv_m {tb : TB} {tx : List Value} {lk N : Nat → Int32} {c k : Nat} {x y w v : Int32} (H : TC tb tx lk N c) (hk : k < 3) (hk0 : k ≠ 0) (h : MVr (nI k) N c x y w v) : v = tvF (nI k) N c x y w := by
  rcases h with ⟨h1, rfl⟩ | ⟨t, lc, ky, sf, fa, h1, hky, h2, h3, h4, h5, rfl⟩
  · exact (tvF_n h1).symm
  · rw [tvF_s h1]
    exact ev_m (z := 0) H hk h1 h2 h3 (by omega) h4 h5 (fun q => absurd q hk0) rfl rfl (fun q => absurd q hk0)
