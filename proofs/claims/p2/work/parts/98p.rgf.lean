theorem rg_f {N : Nat → Int32} {fr c q : Nat} {v : Int32} (H : RG N fr c) (hq : 25 ≤ q) (h : ∀ f, f < 8 → q ≠ 22 + 5 * f ∧ q ≠ 23 + 5 * f ∧ q ≠ 24 + 5 * f) : RG (upd N q v) fr c := rg_u H (by omega) (by omega) (fun f hf e => absurd e (h f hf).1) (fun f hf e => absurd e (h f hf).2.1) (fun f hf e => absurd e (h f hf).2.2) (fun _ _ e => by omega) (fun _ _ e => by omega) (fun _ _ e => by omega) (fun e => by omega) (fun e => by omega) (fun e => by omega) (fun e => by omega)
theorem rg_n {N : Nat → Int32} {fr c : Nat} {fr' : Nat} (H : RG N fr c) (h : fr' ≤ 8) : RG (upd N 1 (nI fr')) fr' c := by
  obtain ⟨g1, g2, g3, g4, g5, g6, g8, g9, g10, g11, g12, g13⟩ := H
  refine ⟨pk_us, h, (pk_un (by omega)).trans g3, g4, fun f hf => ?_, fun t h => ?_, fun j h => ?_, fun s h => ?_, ?_, ?_, ?_, ?_⟩
  · rw [pk_un (by omega), pk_un (by omega), pk_un (by omega)]; exact g5 f hf
  · rw [pk_un (by omega)]; exact g6 t h
  · rw [pk_un (by omega)]; exact g8 j h
  · rw [pk_un (by omega)]; exact g9 s h
  · rw [pk_un (by omega)]; exact g10
  · rw [pk_un (by omega)]; exact g11
  · rw [pk_un (by omega)]; exact g12
  · rw [pk_un (by omega)]; exact g13
theorem rg_add {N : Nat → Int32} {fr c : Nat} {k s p : Int32} (H : RG N fr c) (h8 : fr < 8) (hk : wi k 0 5) (hs : wi s 0 1) (hp : wi p 0 99) : RG (addN N fr k s p) (fr + 1) c := by
  unfold addN
  have a1 : RG (upd N (22 + 5 * fr) k) fr c := rg_u H (by omega) (by omega) (fun _ _ _ => hk) (fun _ _ e => by omega) (fun _ _ e => by omega) (fun _ _ e => by omega) (fun _ _ e => by omega) (fun _ _ e => by omega) (fun e => by omega) (fun e => by omega) (fun e => by omega) (fun e => by omega)
  have a2 : RG (upd (upd N (22 + 5 * fr) k) (23 + 5 * fr) s) fr c := rg_u a1 (by omega) (by omega) (fun _ _ e => by omega) (fun _ _ _ => hs) (fun _ _ e => by omega) (fun _ _ e => by omega) (fun _ _ e => by omega) (fun _ _ e => by omega) (fun e => by omega) (fun e => by omega) (fun e => by omega) (fun e => by omega)
  have a3 : RG (upd (upd (upd N (22 + 5 * fr) k) (23 + 5 * fr) s) (24 + 5 * fr) p) fr c := rg_u a2 (by omega) (by omega) (fun _ _ e => by omega) (fun _ _ e => by omega) (fun _ _ _ => hp) (fun _ _ e => by omega) (fun _ _ e => by omega) (fun _ _ e => by omega) (fun e => by omega) (fun e => by omega) (fun e => by omega) (fun e => by omega)
  exact rg_n (rg_f (rg_f a3 (by omega) (fun f hf => by omega)) (by omega) (fun f hf => by omega)) (by omega)
theorem rg_fr {N : Nat → Int32} {fr c : Nat} {k s p : Int32} (H : RG N fr c) : ∃ fr', RG (frN N fr k s p) fr' c := by
  unfold frN
  by_cases q : wi k 0 5 ∧ wi s 0 1 ∧ wi p 0 99
  · rw [cI_t q]
    by_cases q1 : fr < 8
    · rw [cI_t q1]; exact ⟨_, rg_add H q1 q.1 q.2.1 q.2.2⟩
    · rw [cI_f q1]; exact ⟨_, H⟩
  · rw [cI_f q]; exact ⟨_, H⟩
