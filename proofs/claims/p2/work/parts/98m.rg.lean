theorem rg_cg {N M : Nat → Int32} {fr c c' : Nat} (H : RG N fr c) (h : ∀ k, k < 62 → k ≠ 7 → M k = N k) (h7 : M 7 = nI c') (hc : c' ≤ 14) : RG M fr c' := by
  obtain ⟨h1, h2, h3, h4, h5, h6, h8, h9, h10, h11, h12, h13⟩ := H
  refine ⟨(h 1 (by omega) (by omega)).trans h1, h2, h7, hc, fun f hf => ?_, fun t ht => ?_, fun j hj => ?_, fun s hs => ?_, ?_, ?_, ?_, ?_⟩
  · rw [h (22 + 5 * f) (by omega) (by omega), h (23 + 5 * f) (by omega) (by omega), h (24 + 5 * f) (by omega) (by omega)]; exact h5 f hf
  · rw [h (8 + t) (by omega) (by omega)]; exact h6 t ht
  · rw [h (12 + j) (by omega) (by omega)]; exact h8 j hj
  · rw [h (20 + s) (by omega) (by omega)]; exact h9 s hs
  · rw [h 2 (by omega) (by omega)]; exact h10
  · rw [h 3 (by omega) (by omega)]; exact h11
  · rw [h 4 (by omega) (by omega)]; exact h12
  · rw [h 5 (by omega) (by omega)]; exact h13
theorem rg_tx {N : Nat → Int32} {fr c j at_ : Nat} {cs : List Int32} (H : RG N fr c) (hc : c < 14) (hl : cs.length ≤ 96) : RG (txN N c j cs at_) fr (c + 1) := by
  obtain ⟨d1, d2, d3, d4, d5⟩ := tx_hd (N := N) (j := j) (at_ := at_) (cs := cs) hc hl
  exact rg_cg H (fun k h1 h2 => d5 k h2 (by omega) (by omega) (by omega)) d3 (by omega)
theorem qr_cg {b : Nat} {N M : Nat → Int32} {tx : List Value} {lk mv : Nat → Int32} {h : am_H} (H : QR b N tx lk mv h) (e : ∀ k, k < 62 → M k = N k) : QR b M tx lk mv h := by
  obtain ⟨f0, f1, f2, f3, f4, f5, f6, f7, f8, f9, f10, f11⟩ := H
  refine ⟨?_, f1.trans ?_, f2.trans ?_, f3.trans ?_, f4.trans ?_, f5.trans ?_, f6.trans ?_, f7.trans ?_, f8.trans ?_, f9, f10, f11⟩
  · rw [f0]; simp only [QO, e 0 (by omega), e 1 (by omega), e 2 (by omega), e 3 (by omega), e 4 (by omega), e 5 (by omega), e 6 (by omega), e 7 (by omega)]
  all_goals exact congrArg (fun l : List Int32 => (some (.inl (0, l)) : Option am_AC)) (tl_congr (fun i hi => (e _ (by omega)).symm))
theorem qr_txn {N : Nat → Int32} {tx : List Value} {lk mv : Nat → Int32} {h : am_H} {c j at_ : Nat} {cs : List Int32} (hc : c < 14) (hl : cs.length ≤ 96) (H : QR 1 (upd N 7 (nI (c + 1))) tx lk mv h) : QR 1 (txN N c j cs at_) tx lk mv h := by
  obtain ⟨d1, d2, d3, d4, d5⟩ := tx_hd (N := N) (j := j) (at_ := at_) (cs := cs) hc hl
  refine qr_cg H (fun k hk => ?_)
  by_cases q : k = 7
  · subst q; rw [pk_us]; exact d3
  · rw [pk_un q]; exact d5 k q (by omega) (by omega) (by omega)
