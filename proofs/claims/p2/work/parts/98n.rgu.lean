theorem rg_u {N : Nat → Int32} {fr c k : Nat} {v : Int32} (H : RG N fr c) (k1 : k ≠ 1) (k7 : k ≠ 7) (hk : ∀ f, f < 8 → k = 22 + 5 * f → wi v 0 5) (hs : ∀ f, f < 8 → k = 23 + 5 * f → wi v 0 1) (hp : ∀ f, f < 8 → k = 24 + 5 * f → wi v 0 99) (ht : ∀ t, t < 4 → k = 8 + t → wi v 0 9) (hj : ∀ j, j < 8 → k = 12 + j → wi v 0 9) (hh : ∀ s, s < 2 → k = 20 + s → wi v 0 400) (h2 : k = 2 → wi v 0 9999) (h3 : k = 3 → wi v 0 99) (h4 : k = 4 → wi v 1 99) (h5 : k = 5 → wi v 0 100) : RG (upd N k v) fr c := by
  have U : ∀ {q : Nat} {lo hi : Int32}, wi (N q) lo hi → (k = q → wi v lo hi) → wi (upd N k v q) lo hi := by
    intro q lo hi a b
    by_cases e : q = k
    · subst e; rw [pk_us]; exact b rfl
    · rw [pk_un e]; exact a
  obtain ⟨g1, g2, g3, g4, g5, g6, g8, g9, g10, g11, g12, g13⟩ := H
  exact ⟨(pk_un (Ne.symm k1)).trans g1, g2, (pk_un (Ne.symm k7)).trans g3, g4, (fun f hf => ⟨U (g5 f hf).1 (hk f hf), U (g5 f hf).2.1 (hs f hf), U (g5 f hf).2.2 (hp f hf)⟩), (fun t h => U (g6 t h) (ht t h)), (fun j h => U (g8 j h) (hj j h)), (fun s h => U (g9 s h) (hh s h)), U g10 h2, U g11 h3, U g12 h4, U g13 h5⟩
theorem rg_0 {N : Nat → Int32} {fr c : Nat} {v : Int32} (H : RG N fr c) : RG (upd N 0 v) fr c := rg_u H (by omega) (by omega) (fun _ _ e => by omega) (fun _ _ e => by omega) (fun _ _ e => by omega) (fun _ _ e => by omega) (fun _ _ e => by omega) (fun _ _ e => by omega) (fun e => by omega) (fun e => by omega) (fun e => by omega) (fun e => by omega)
