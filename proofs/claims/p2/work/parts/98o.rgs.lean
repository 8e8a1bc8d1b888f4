theorem fN_b {x hi : Int32} {H : Nat} (h1 : hi.toInt = H) (hH : H < 1000) (h : wi x 0 hi) : fN x ≤ H := by
  obtain ⟨q, hq, e⟩ := wi_nI (H := H) h1 (by decide) h
  subst e
  rw [fN_nI (by omega)]
  exact hq
theorem fN_f {N : Nat → Int32} {fr c : Nat} {f : Int32} (H : RG N fr c) (h : wi f 0 (N 1 - 1)) : fN f < 8 := by
  obtain ⟨j, hj, e⟩ := wi_idx H.1 (by have z := H.2.1; omega) h
  subst e
  have z := H.2.1
  rw [fN_nI (by omega)]; omega
theorem rg_tu {N : Nat → Int32} {fr c : Nat} {f k : Int32} (H : RG N fr c) : RG (tuN N f k) fr c := by
  unfold tuN
  by_cases q : wi f 0 (N 1 - 1) ∧ wi k 0 5
  · rw [cI_t q]
    have hf := fN_f H q.1
    exact rg_u H (by omega) (by omega) (fun _ _ _ => q.2) (fun _ _ e => by omega) (fun _ _ e => by omega) (fun _ _ e => by omega) (fun _ _ e => by omega) (fun _ _ e => by omega) (fun e => by omega) (fun e => by omega) (fun e => by omega) (fun e => by omega)
  · rw [cI_f q]; exact H
theorem rg_se {N : Nat → Int32} {fr c : Nat} {f w v : Int32} (H : RG N fr c) : RG (seN N f w v) fr c := by
  unfold seN
  by_cases q : wi f 0 (N 1 - 1)
  · rw [cI_t q]
    have hf := fN_f H q
    by_cases q1 : w = 1
    · rw [cI_t q1]
      by_cases q2 : wi v 0 1
      · rw [cI_t q2]
        exact rg_u H (by omega) (by omega) (fun _ _ e => by omega) (fun _ _ _ => q2) (fun _ _ e => by omega) (fun _ _ e => by omega) (fun _ _ e => by omega) (fun _ _ e => by omega) (fun e => by omega) (fun e => by omega) (fun e => by omega) (fun e => by omega)
      · rw [cI_f q2]; exact H
    · rw [cI_f q1]
      by_cases q3 : w = 2
      · rw [cI_t q3]
        by_cases q2 : wi v 0 99
        · rw [cI_t q2]
          exact rg_u H (by omega) (by omega) (fun _ _ e => by omega) (fun _ _ e => by omega) (fun _ _ _ => q2) (fun _ _ e => by omega) (fun _ _ e => by omega) (fun _ _ e => by omega) (fun e => by omega) (fun e => by omega) (fun e => by omega) (fun e => by omega)
        · rw [cI_f q2]; exact H
      · rw [cI_f q3]; exact H
  · rw [cI_f q]; exact H
theorem rg_st {N : Nat → Int32} {fr c : Nat} {t v : Int32} (H : RG N fr c) : RG (stN N t v) fr c := by
  unfold stN
  by_cases q : wi t 0 3 ∧ wi v 0 9
  · rw [cI_t q]
    have hf := fN_b (H := 3) (by decide) (by decide) q.1
    exact rg_u H (by omega) (by omega) (fun _ _ e => by omega) (fun _ _ e => by omega) (fun _ _ e => by omega) (fun _ _ _ => q.2) (fun _ _ _ => q.2) (fun _ _ e => by omega) (fun e => by omega) (fun e => by omega) (fun e => by omega) (fun e => by omega)
  · rw [cI_f q]; exact H
theorem rg_ca {N : Nat → Int32} {fr c : Nat} {s t v : Int32} (H : RG N fr c) : RG (caN N s t v) fr c := by
  unfold caN
  by_cases q : wi s 0 1 ∧ wi t 0 3 ∧ wi v 0 9
  · rw [cI_t q]
    have hf := fN_b (H := 1) (by decide) (by decide) q.1
    have hg := fN_b (H := 3) (by decide) (by decide) q.2.1
    exact rg_u H (by omega) (by omega) (fun _ _ e => by omega) (fun _ _ e => by omega) (fun _ _ e => by omega) (fun _ _ _ => q.2.2) (fun _ _ _ => q.2.2) (fun _ _ e => by omega) (fun e => by omega) (fun e => by omega) (fun e => by omega) (fun e => by omega)
  · rw [cI_f q]; exact H
theorem rg_ho {N : Nat → Int32} {fr c : Nat} {s v : Int32} (H : RG N fr c) : RG (hoN N s v) fr c := by
  unfold hoN
  by_cases q : wi s 0 1 ∧ wi v 0 400
  · rw [cI_t q]
    have hf := fN_b (H := 1) (by decide) (by decide) q.1
    exact rg_u H (by omega) (by omega) (fun _ _ e => by omega) (fun _ _ e => by omega) (fun _ _ e => by omega) (fun _ _ e => by omega) (fun _ _ e => by omega) (fun _ _ _ => q.2) (fun e => by omega) (fun e => by omega) (fun e => by omega) (fun e => by omega)
  · rw [cI_f q]; exact H
theorem rg_ru {N : Nat → Int32} {fr c : Nat} {w v : Int32} (H : RG N fr c) : RG (ruN N w v) fr c := by
  unfold ruN
  by_cases q : w = 0 ∧ wi v 0 99
  · rw [cI_t q]
    exact rg_u H (by omega) (by omega) (fun _ _ e => by omega) (fun _ _ e => by omega) (fun _ _ e => by omega) (fun _ _ e => by omega) (fun _ _ e => by omega) (fun _ _ e => by omega) (fun e => by omega) (fun _ => q.2) (fun e => by omega) (fun e => by omega)
  · rw [cI_f q]
    by_cases q1 : w = 1 ∧ wi v 1 99
    · rw [cI_t q1]
      exact rg_u H (by omega) (by omega) (fun _ _ e => by omega) (fun _ _ e => by omega) (fun _ _ e => by omega) (fun _ _ e => by omega) (fun _ _ e => by omega) (fun _ _ e => by omega) (fun e => by omega) (fun e => by omega) (fun _ => q1.2) (fun e => by omega)
    · rw [cI_f q1]
      by_cases q2 : w = 2 ∧ wi v 0 100
      · rw [cI_t q2]
        exact rg_u H (by omega) (by omega) (fun _ _ e => by omega) (fun _ _ e => by omega) (fun _ _ e => by omega) (fun _ _ e => by omega) (fun _ _ e => by omega) (fun _ _ e => by omega) (fun e => by omega) (fun e => by omega) (fun e => by omega) (fun _ => q2.2)
      · rw [cI_f q2]; exact H
