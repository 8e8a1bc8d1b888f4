def tl (n : Nat) (f : Nat → Int32) : List Int32 := (List.range n).map f
theorem tl_len {n : Nat} {f : Nat → Int32} : (tl n f).length = n := by simp [tl]
theorem tl_at {n j : Nat} {f : Nat → Int32} (h : j < n) : (tl n f)[j]? = some (f j) := by simp [tl, List.getElem?_range h]
theorem tl_congr {n : Nat} {f g : Nat → Int32} (h : ∀ j, j < n → f j = g j) : tl n f = tl n g := by
  unfold tl
  exact List.map_congr_left (fun j hj => h j (List.mem_range.mp hj))
theorem tl_set {n j : Nat} {f : Nat → Int32} {v : Int32} : (tl n f).set j v = tl n (upd f j v) := by
  apply List.ext_getElem?
  intro i
  by_cases hi : i < n
  · rw [tl_at hi]
    by_cases hj : i = j
    · subst hj
      rw [List.getElem?_set_self (by rw [tl_len]; exact hi), pk_us]
    · rw [List.getElem?_set_ne (Ne.symm hj), tl_at hi, pk_un hj]
  · rw [List.getElem?_eq_none (by rw [List.length_set, tl_len]; omega), List.getElem?_eq_none (by rw [tl_len]; omega)]
theorem tl_setN {n j o c : Nat} {N : Nat → Int32} {v : Int32} (hc : 0 < c) : (tl n (fun i => N (o + c * i))).set j v = tl n (fun i => upd N (o + c * j) v (o + c * i)) := by
  rw [tl_set]
  refine tl_congr (fun i _ => ?_)
  by_cases hi : i = j
  · subst hi; rw [pk_us, pk_us]
  · rw [pk_un hi, pk_un (fun q => hi (Nat.eq_of_mul_eq_mul_left hc (by omega)))]
theorem tl_keep {n o c k : Nat} {N : Nat → Int32} {v : Int32} (h : ∀ i, i < n → o + c * i ≠ k) : tl n (fun i => N (o + c * i)) = tl n (fun i => upd N k v (o + c * i)) := tl_congr (fun i hi => (pk_un (h i hi)).symm)
def QO (b : Nat) (N : Nat → Int32) : List Value := [.ref (b + 1), .ref (b + 2), .ref (b + 3), .int (N 3), .int (N 4), .int (N 5), .int (N 6), .int (N 2), .int (N 0), .int (N 1), .ref (b + 4), .ref (b + 5), .ref (b + 6), .ref (b + 7), .ref (b + 8), .ref (b + 9), .int (N 7), .ref (b + 10), .ref (b + 11)]
def QR (b : Nat) (N : Nat → Int32) (tx : List Value) (lk mv : Nat → Int32) (h : am_H) : Prop :=
  h b = some (.inr (0, QO b N)) ∧ h (b + 1) = some (.inl (0, tl 4 (fun i => N (8 + 1 * i)))) ∧ h (b + 2) = some (.inl (0, tl 8 (fun i => N (12 + 1 * i)))) ∧ h (b + 3) = some (.inl (0, tl 2 (fun i => N (20 + 1 * i)))) ∧
  h (b + 4) = some (.inl (0, tl 8 (fun i => N (22 + 5 * i)))) ∧ h (b + 5) = some (.inl (0, tl 8 (fun i => N (23 + 5 * i)))) ∧ h (b + 6) = some (.inl (0, tl 8 (fun i => N (24 + 5 * i)))) ∧ h (b + 7) = some (.inl (0, tl 8 (fun i => N (25 + 5 * i)))) ∧ h (b + 8) = some (.inl (0, tl 8 (fun i => N (26 + 5 * i)))) ∧
  h (b + 9) = some (.inr (15, tx)) ∧ h (b + 10) = some (.inl (0, tl 3 lk)) ∧ h (b + 11) = some (.inl (0, tl 4 mv))
theorem qr_frame {b : Nat} {N : Nat → Int32} {tx : List Value} {lk mv : Nat → Int32} {h h' : am_H} (F : QR b N tx lk mv h) (hf : ∀ k, b ≤ k → k < b + 12 → h' k = h k) : QR b N tx lk mv h' := by
  obtain ⟨f0, f1, f2, f3, f4, f5, f6, f7, f8, f9, f10, f11⟩ := F
  exact ⟨(hf _ (by omega) (by omega)).trans f0, (hf _ (by omega) (by omega)).trans f1, (hf _ (by omega) (by omega)).trans f2, (hf _ (by omega) (by omega)).trans f3, (hf _ (by omega) (by omega)).trans f4, (hf _ (by omega) (by omega)).trans f5, (hf _ (by omega) (by omega)).trans f6, (hf _ (by omega) (by omega)).trans f7, (hf _ (by omega) (by omega)).trans f8, (hf _ (by omega) (by omega)).trans f9, (hf _ (by omega) (by omega)).trans f10, (hf _ (by omega) (by omega)).trans f11⟩
theorem qr_out {b a : Nat} {N : Nat → Int32} {tx : List Value} {lk mv : Nat → Int32} {h : am_H} {c : am_AC} (ha : a < b ∨ b + 12 ≤ a) (F : QR b N tx lk mv h) : QR b N tx lk mv (am_up h a c) := qr_frame F (fun k h1 h2 => am_nE (by omega))
theorem qr_stand {b : Nat} {N : Nat → Int32} {tx : List Value} {lk mv : Nat → Int32} {h : am_H} {v : Int32} {j : Nat} (F : QR b N tx lk mv h) (hj : j < 4) : QR b (upd N (8 + 1 * j) v) tx lk mv (am_up h (b + 1) (.inl (0, (tl 4 (fun i => N (8 + 1 * i))).set j v))) := by
  obtain ⟨f0, f1, f2, f3, f4, f5, f6, f7, f8, f9, f10, f11⟩ := F
  exact ⟨(am_ne (by omega) (f0.trans (by simp only [QO]; rw [pk_un (f := N) (k := (8 + 1 * j)) (j := 3) (by omega), pk_un (f := N) (k := (8 + 1 * j)) (j := 4) (by omega), pk_un (f := N) (k := (8 + 1 * j)) (j := 5) (by omega), pk_un (f := N) (k := (8 + 1 * j)) (j := 6) (by omega), pk_un (f := N) (k := (8 + 1 * j)) (j := 2) (by omega), pk_un (f := N) (k := (8 + 1 * j)) (j := 0) (by omega), pk_un (f := N) (k := (8 + 1 * j)) (j := 1) (by omega), pk_un (f := N) (k := (8 + 1 * j)) (j := 7) (by omega)]))), (am_eq.trans (congrArg (fun l : List Int32 => (some (.inl (0, l)) : Option am_AC)) (tl_setN (by omega)))), (am_ne (by omega) (f2.trans (congrArg (fun l : List Int32 => (some (.inl (0, l)) : Option am_AC)) (tl_keep (fun i hi => by omega))))), (am_ne (by omega) (f3.trans (congrArg (fun l : List Int32 => (some (.inl (0, l)) : Option am_AC)) (tl_keep (fun i hi => by omega))))), (am_ne (by omega) (f4.trans (congrArg (fun l : List Int32 => (some (.inl (0, l)) : Option am_AC)) (tl_keep (fun i hi => by omega))))), (am_ne (by omega) (f5.trans (congrArg (fun l : List Int32 => (some (.inl (0, l)) : Option am_AC)) (tl_keep (fun i hi => by omega))))), (am_ne (by omega) (f6.trans (congrArg (fun l : List Int32 => (some (.inl (0, l)) : Option am_AC)) (tl_keep (fun i hi => by omega))))), (am_ne (by omega) (f7.trans (congrArg (fun l : List Int32 => (some (.inl (0, l)) : Option am_AC)) (tl_keep (fun i hi => by omega))))), (am_ne (by omega) (f8.trans (congrArg (fun l : List Int32 => (some (.inl (0, l)) : Option am_AC)) (tl_keep (fun i hi => by omega))))), (am_ne (by omega) f9), (am_ne (by omega) f10), (am_ne (by omega) f11)⟩
theorem qr_care {b : Nat} {N : Nat → Int32} {tx : List Value} {lk mv : Nat → Int32} {h : am_H} {v : Int32} {j : Nat} (F : QR b N tx lk mv h) (hj : j < 8) : QR b (upd N (12 + 1 * j) v) tx lk mv (am_up h (b + 2) (.inl (0, (tl 8 (fun i => N (12 + 1 * i))).set j v))) := by
  obtain ⟨f0, f1, f2, f3, f4, f5, f6, f7, f8, f9, f10, f11⟩ := F
  exact ⟨(am_ne (by omega) (f0.trans (by simp only [QO]; rw [pk_un (f := N) (k := (12 + 1 * j)) (j := 3) (by omega), pk_un (f := N) (k := (12 + 1 * j)) (j := 4) (by omega), pk_un (f := N) (k := (12 + 1 * j)) (j := 5) (by omega), pk_un (f := N) (k := (12 + 1 * j)) (j := 6) (by omega), pk_un (f := N) (k := (12 + 1 * j)) (j := 2) (by omega), pk_un (f := N) (k := (12 + 1 * j)) (j := 0) (by omega), pk_un (f := N) (k := (12 + 1 * j)) (j := 1) (by omega), pk_un (f := N) (k := (12 + 1 * j)) (j := 7) (by omega)]))), (am_ne (by omega) (f1.trans (congrArg (fun l : List Int32 => (some (.inl (0, l)) : Option am_AC)) (tl_keep (fun i hi => by omega))))), (am_eq.trans (congrArg (fun l : List Int32 => (some (.inl (0, l)) : Option am_AC)) (tl_setN (by omega)))), (am_ne (by omega) (f3.trans (congrArg (fun l : List Int32 => (some (.inl (0, l)) : Option am_AC)) (tl_keep (fun i hi => by omega))))), (am_ne (by omega) (f4.trans (congrArg (fun l : List Int32 => (some (.inl (0, l)) : Option am_AC)) (tl_keep (fun i hi => by omega))))), (am_ne (by omega) (f5.trans (congrArg (fun l : List Int32 => (some (.inl (0, l)) : Option am_AC)) (tl_keep (fun i hi => by omega))))), (am_ne (by omega) (f6.trans (congrArg (fun l : List Int32 => (some (.inl (0, l)) : Option am_AC)) (tl_keep (fun i hi => by omega))))), (am_ne (by omega) (f7.trans (congrArg (fun l : List Int32 => (some (.inl (0, l)) : Option am_AC)) (tl_keep (fun i hi => by omega))))), (am_ne (by omega) (f8.trans (congrArg (fun l : List Int32 => (some (.inl (0, l)) : Option am_AC)) (tl_keep (fun i hi => by omega))))), (am_ne (by omega) f9), (am_ne (by omega) f10), (am_ne (by omega) f11)⟩
theorem qr_honour {b : Nat} {N : Nat → Int32} {tx : List Value} {lk mv : Nat → Int32} {h : am_H} {v : Int32} {j : Nat} (F : QR b N tx lk mv h) (hj : j < 2) : QR b (upd N (20 + 1 * j) v) tx lk mv (am_up h (b + 3) (.inl (0, (tl 2 (fun i => N (20 + 1 * i))).set j v))) := by
  obtain ⟨f0, f1, f2, f3, f4, f5, f6, f7, f8, f9, f10, f11⟩ := F
  exact ⟨(am_ne (by omega) (f0.trans (by simp only [QO]; rw [pk_un (f := N) (k := (20 + 1 * j)) (j := 3) (by omega), pk_un (f := N) (k := (20 + 1 * j)) (j := 4) (by omega), pk_un (f := N) (k := (20 + 1 * j)) (j := 5) (by omega), pk_un (f := N) (k := (20 + 1 * j)) (j := 6) (by omega), pk_un (f := N) (k := (20 + 1 * j)) (j := 2) (by omega), pk_un (f := N) (k := (20 + 1 * j)) (j := 0) (by omega), pk_un (f := N) (k := (20 + 1 * j)) (j := 1) (by omega), pk_un (f := N) (k := (20 + 1 * j)) (j := 7) (by omega)]))), (am_ne (by omega) (f1.trans (congrArg (fun l : List Int32 => (some (.inl (0, l)) : Option am_AC)) (tl_keep (fun i hi => by omega))))), (am_ne (by omega) (f2.trans (congrArg (fun l : List Int32 => (some (.inl (0, l)) : Option am_AC)) (tl_keep (fun i hi => by omega))))), (am_eq.trans (congrArg (fun l : List Int32 => (some (.inl (0, l)) : Option am_AC)) (tl_setN (by omega)))), (am_ne (by omega) (f4.trans (congrArg (fun l : List Int32 => (some (.inl (0, l)) : Option am_AC)) (tl_keep (fun i hi => by omega))))), (am_ne (by omega) (f5.trans (congrArg (fun l : List Int32 => (some (.inl (0, l)) : Option am_AC)) (tl_keep (fun i hi => by omega))))), (am_ne (by omega) (f6.trans (congrArg (fun l : List Int32 => (some (.inl (0, l)) : Option am_AC)) (tl_keep (fun i hi => by omega))))), (am_ne (by omega) (f7.trans (congrArg (fun l : List Int32 => (some (.inl (0, l)) : Option am_AC)) (tl_keep (fun i hi => by omega))))), (am_ne (by omega) (f8.trans (congrArg (fun l : List Int32 => (some (.inl (0, l)) : Option am_AC)) (tl_keep (fun i hi => by omega))))), (am_ne (by omega) f9), (am_ne (by omega) f10), (am_ne (by omega) f11)⟩
theorem qr_kind {b : Nat} {N : Nat → Int32} {tx : List Value} {lk mv : Nat → Int32} {h : am_H} {v : Int32} {j : Nat} (F : QR b N tx lk mv h) (hj : j < 8) : QR b (upd N (22 + 5 * j) v) tx lk mv (am_up h (b + 4) (.inl (0, (tl 8 (fun i => N (22 + 5 * i))).set j v))) := by
  obtain ⟨f0, f1, f2, f3, f4, f5, f6, f7, f8, f9, f10, f11⟩ := F
  exact ⟨(am_ne (by omega) (f0.trans (by simp only [QO]; rw [pk_un (f := N) (k := (22 + 5 * j)) (j := 3) (by omega), pk_un (f := N) (k := (22 + 5 * j)) (j := 4) (by omega), pk_un (f := N) (k := (22 + 5 * j)) (j := 5) (by omega), pk_un (f := N) (k := (22 + 5 * j)) (j := 6) (by omega), pk_un (f := N) (k := (22 + 5 * j)) (j := 2) (by omega), pk_un (f := N) (k := (22 + 5 * j)) (j := 0) (by omega), pk_un (f := N) (k := (22 + 5 * j)) (j := 1) (by omega), pk_un (f := N) (k := (22 + 5 * j)) (j := 7) (by omega)]))), (am_ne (by omega) (f1.trans (congrArg (fun l : List Int32 => (some (.inl (0, l)) : Option am_AC)) (tl_keep (fun i hi => by omega))))), (am_ne (by omega) (f2.trans (congrArg (fun l : List Int32 => (some (.inl (0, l)) : Option am_AC)) (tl_keep (fun i hi => by omega))))), (am_ne (by omega) (f3.trans (congrArg (fun l : List Int32 => (some (.inl (0, l)) : Option am_AC)) (tl_keep (fun i hi => by omega))))), (am_eq.trans (congrArg (fun l : List Int32 => (some (.inl (0, l)) : Option am_AC)) (tl_setN (by omega)))), (am_ne (by omega) (f5.trans (congrArg (fun l : List Int32 => (some (.inl (0, l)) : Option am_AC)) (tl_keep (fun i hi => by omega))))), (am_ne (by omega) (f6.trans (congrArg (fun l : List Int32 => (some (.inl (0, l)) : Option am_AC)) (tl_keep (fun i hi => by omega))))), (am_ne (by omega) (f7.trans (congrArg (fun l : List Int32 => (some (.inl (0, l)) : Option am_AC)) (tl_keep (fun i hi => by omega))))), (am_ne (by omega) (f8.trans (congrArg (fun l : List Int32 => (some (.inl (0, l)) : Option am_AC)) (tl_keep (fun i hi => by omega))))), (am_ne (by omega) f9), (am_ne (by omega) f10), (am_ne (by omega) f11)⟩
theorem qr_side {b : Nat} {N : Nat → Int32} {tx : List Value} {lk mv : Nat → Int32} {h : am_H} {v : Int32} {j : Nat} (F : QR b N tx lk mv h) (hj : j < 8) : QR b (upd N (23 + 5 * j) v) tx lk mv (am_up h (b + 5) (.inl (0, (tl 8 (fun i => N (23 + 5 * i))).set j v))) := by
  obtain ⟨f0, f1, f2, f3, f4, f5, f6, f7, f8, f9, f10, f11⟩ := F
  exact ⟨(am_ne (by omega) (f0.trans (by simp only [QO]; rw [pk_un (f := N) (k := (23 + 5 * j)) (j := 3) (by omega), pk_un (f := N) (k := (23 + 5 * j)) (j := 4) (by omega), pk_un (f := N) (k := (23 + 5 * j)) (j := 5) (by omega), pk_un (f := N) (k := (23 + 5 * j)) (j := 6) (by omega), pk_un (f := N) (k := (23 + 5 * j)) (j := 2) (by omega), pk_un (f := N) (k := (23 + 5 * j)) (j := 0) (by omega), pk_un (f := N) (k := (23 + 5 * j)) (j := 1) (by omega), pk_un (f := N) (k := (23 + 5 * j)) (j := 7) (by omega)]))), (am_ne (by omega) (f1.trans (congrArg (fun l : List Int32 => (some (.inl (0, l)) : Option am_AC)) (tl_keep (fun i hi => by omega))))), (am_ne (by omega) (f2.trans (congrArg (fun l : List Int32 => (some (.inl (0, l)) : Option am_AC)) (tl_keep (fun i hi => by omega))))), (am_ne (by omega) (f3.trans (congrArg (fun l : List Int32 => (some (.inl (0, l)) : Option am_AC)) (tl_keep (fun i hi => by omega))))), (am_ne (by omega) (f4.trans (congrArg (fun l : List Int32 => (some (.inl (0, l)) : Option am_AC)) (tl_keep (fun i hi => by omega))))), (am_eq.trans (congrArg (fun l : List Int32 => (some (.inl (0, l)) : Option am_AC)) (tl_setN (by omega)))), (am_ne (by omega) (f6.trans (congrArg (fun l : List Int32 => (some (.inl (0, l)) : Option am_AC)) (tl_keep (fun i hi => by omega))))), (am_ne (by omega) (f7.trans (congrArg (fun l : List Int32 => (some (.inl (0, l)) : Option am_AC)) (tl_keep (fun i hi => by omega))))), (am_ne (by omega) (f8.trans (congrArg (fun l : List Int32 => (some (.inl (0, l)) : Option am_AC)) (tl_keep (fun i hi => by omega))))), (am_ne (by omega) f9), (am_ne (by omega) f10), (am_ne (by omega) f11)⟩
theorem qr_pride {b : Nat} {N : Nat → Int32} {tx : List Value} {lk mv : Nat → Int32} {h : am_H} {v : Int32} {j : Nat} (F : QR b N tx lk mv h) (hj : j < 8) : QR b (upd N (24 + 5 * j) v) tx lk mv (am_up h (b + 6) (.inl (0, (tl 8 (fun i => N (24 + 5 * i))).set j v))) := by
  obtain ⟨f0, f1, f2, f3, f4, f5, f6, f7, f8, f9, f10, f11⟩ := F
  exact ⟨(am_ne (by omega) (f0.trans (by simp only [QO]; rw [pk_un (f := N) (k := (24 + 5 * j)) (j := 3) (by omega), pk_un (f := N) (k := (24 + 5 * j)) (j := 4) (by omega), pk_un (f := N) (k := (24 + 5 * j)) (j := 5) (by omega), pk_un (f := N) (k := (24 + 5 * j)) (j := 6) (by omega), pk_un (f := N) (k := (24 + 5 * j)) (j := 2) (by omega), pk_un (f := N) (k := (24 + 5 * j)) (j := 0) (by omega), pk_un (f := N) (k := (24 + 5 * j)) (j := 1) (by omega), pk_un (f := N) (k := (24 + 5 * j)) (j := 7) (by omega)]))), (am_ne (by omega) (f1.trans (congrArg (fun l : List Int32 => (some (.inl (0, l)) : Option am_AC)) (tl_keep (fun i hi => by omega))))), (am_ne (by omega) (f2.trans (congrArg (fun l : List Int32 => (some (.inl (0, l)) : Option am_AC)) (tl_keep (fun i hi => by omega))))), (am_ne (by omega) (f3.trans (congrArg (fun l : List Int32 => (some (.inl (0, l)) : Option am_AC)) (tl_keep (fun i hi => by omega))))), (am_ne (by omega) (f4.trans (congrArg (fun l : List Int32 => (some (.inl (0, l)) : Option am_AC)) (tl_keep (fun i hi => by omega))))), (am_ne (by omega) (f5.trans (congrArg (fun l : List Int32 => (some (.inl (0, l)) : Option am_AC)) (tl_keep (fun i hi => by omega))))), (am_eq.trans (congrArg (fun l : List Int32 => (some (.inl (0, l)) : Option am_AC)) (tl_setN (by omega)))), (am_ne (by omega) (f7.trans (congrArg (fun l : List Int32 => (some (.inl (0, l)) : Option am_AC)) (tl_keep (fun i hi => by omega))))), (am_ne (by omega) (f8.trans (congrArg (fun l : List Int32 => (some (.inl (0, l)) : Option am_AC)) (tl_keep (fun i hi => by omega))))), (am_ne (by omega) f9), (am_ne (by omega) f10), (am_ne (by omega) f11)⟩
theorem qr_sent {b : Nat} {N : Nat → Int32} {tx : List Value} {lk mv : Nat → Int32} {h : am_H} {v : Int32} {j : Nat} (F : QR b N tx lk mv h) (hj : j < 8) : QR b (upd N (25 + 5 * j) v) tx lk mv (am_up h (b + 7) (.inl (0, (tl 8 (fun i => N (25 + 5 * i))).set j v))) := by
  obtain ⟨f0, f1, f2, f3, f4, f5, f6, f7, f8, f9, f10, f11⟩ := F
  exact ⟨(am_ne (by omega) (f0.trans (by simp only [QO]; rw [pk_un (f := N) (k := (25 + 5 * j)) (j := 3) (by omega), pk_un (f := N) (k := (25 + 5 * j)) (j := 4) (by omega), pk_un (f := N) (k := (25 + 5 * j)) (j := 5) (by omega), pk_un (f := N) (k := (25 + 5 * j)) (j := 6) (by omega), pk_un (f := N) (k := (25 + 5 * j)) (j := 2) (by omega), pk_un (f := N) (k := (25 + 5 * j)) (j := 0) (by omega), pk_un (f := N) (k := (25 + 5 * j)) (j := 1) (by omega), pk_un (f := N) (k := (25 + 5 * j)) (j := 7) (by omega)]))), (am_ne (by omega) (f1.trans (congrArg (fun l : List Int32 => (some (.inl (0, l)) : Option am_AC)) (tl_keep (fun i hi => by omega))))), (am_ne (by omega) (f2.trans (congrArg (fun l : List Int32 => (some (.inl (0, l)) : Option am_AC)) (tl_keep (fun i hi => by omega))))), (am_ne (by omega) (f3.trans (congrArg (fun l : List Int32 => (some (.inl (0, l)) : Option am_AC)) (tl_keep (fun i hi => by omega))))), (am_ne (by omega) (f4.trans (congrArg (fun l : List Int32 => (some (.inl (0, l)) : Option am_AC)) (tl_keep (fun i hi => by omega))))), (am_ne (by omega) (f5.trans (congrArg (fun l : List Int32 => (some (.inl (0, l)) : Option am_AC)) (tl_keep (fun i hi => by omega))))), (am_ne (by omega) (f6.trans (congrArg (fun l : List Int32 => (some (.inl (0, l)) : Option am_AC)) (tl_keep (fun i hi => by omega))))), (am_eq.trans (congrArg (fun l : List Int32 => (some (.inl (0, l)) : Option am_AC)) (tl_setN (by omega)))), (am_ne (by omega) (f8.trans (congrArg (fun l : List Int32 => (some (.inl (0, l)) : Option am_AC)) (tl_keep (fun i hi => by omega))))), (am_ne (by omega) f9), (am_ne (by omega) f10), (am_ne (by omega) f11)⟩
theorem qr_yield {b : Nat} {N : Nat → Int32} {tx : List Value} {lk mv : Nat → Int32} {h : am_H} {v : Int32} {j : Nat} (F : QR b N tx lk mv h) (hj : j < 8) : QR b (upd N (26 + 5 * j) v) tx lk mv (am_up h (b + 8) (.inl (0, (tl 8 (fun i => N (26 + 5 * i))).set j v))) := by
  obtain ⟨f0, f1, f2, f3, f4, f5, f6, f7, f8, f9, f10, f11⟩ := F
  exact ⟨(am_ne (by omega) (f0.trans (by simp only [QO]; rw [pk_un (f := N) (k := (26 + 5 * j)) (j := 3) (by omega), pk_un (f := N) (k := (26 + 5 * j)) (j := 4) (by omega), pk_un (f := N) (k := (26 + 5 * j)) (j := 5) (by omega), pk_un (f := N) (k := (26 + 5 * j)) (j := 6) (by omega), pk_un (f := N) (k := (26 + 5 * j)) (j := 2) (by omega), pk_un (f := N) (k := (26 + 5 * j)) (j := 0) (by omega), pk_un (f := N) (k := (26 + 5 * j)) (j := 1) (by omega), pk_un (f := N) (k := (26 + 5 * j)) (j := 7) (by omega)]))), (am_ne (by omega) (f1.trans (congrArg (fun l : List Int32 => (some (.inl (0, l)) : Option am_AC)) (tl_keep (fun i hi => by omega))))), (am_ne (by omega) (f2.trans (congrArg (fun l : List Int32 => (some (.inl (0, l)) : Option am_AC)) (tl_keep (fun i hi => by omega))))), (am_ne (by omega) (f3.trans (congrArg (fun l : List Int32 => (some (.inl (0, l)) : Option am_AC)) (tl_keep (fun i hi => by omega))))), (am_ne (by omega) (f4.trans (congrArg (fun l : List Int32 => (some (.inl (0, l)) : Option am_AC)) (tl_keep (fun i hi => by omega))))), (am_ne (by omega) (f5.trans (congrArg (fun l : List Int32 => (some (.inl (0, l)) : Option am_AC)) (tl_keep (fun i hi => by omega))))), (am_ne (by omega) (f6.trans (congrArg (fun l : List Int32 => (some (.inl (0, l)) : Option am_AC)) (tl_keep (fun i hi => by omega))))), (am_ne (by omega) (f7.trans (congrArg (fun l : List Int32 => (some (.inl (0, l)) : Option am_AC)) (tl_keep (fun i hi => by omega))))), (am_eq.trans (congrArg (fun l : List Int32 => (some (.inl (0, l)) : Option am_AC)) (tl_setN (by omega)))), (am_ne (by omega) f9), (am_ne (by omega) f10), (am_ne (by omega) f11)⟩
theorem qr_heat {b : Nat} {N : Nat → Int32} {tx : List Value} {lk mv : Nat → Int32} {h : am_H} {v : Int32} (F : QR b N tx lk mv h) : QR b (upd N 3 v) tx lk mv (am_up h b (.inr (0, (QO b N).set 3 (.int v)))) := by
  obtain ⟨f0, f1, f2, f3, f4, f5, f6, f7, f8, f9, f10, f11⟩ := F
  exact ⟨(am_eq.trans (by simp only [QO, List.set]; rw [pk_us (f := N) (k := 3), pk_un (f := N) (k := 3) (j := 4) (by omega), pk_un (f := N) (k := 3) (j := 5) (by omega), pk_un (f := N) (k := 3) (j := 6) (by omega), pk_un (f := N) (k := 3) (j := 2) (by omega), pk_un (f := N) (k := 3) (j := 0) (by omega), pk_un (f := N) (k := 3) (j := 1) (by omega), pk_un (f := N) (k := 3) (j := 7) (by omega)])), (am_ne (by omega) (f1.trans (congrArg (fun l : List Int32 => (some (.inl (0, l)) : Option am_AC)) (tl_keep (fun i hi => by omega))))), (am_ne (by omega) (f2.trans (congrArg (fun l : List Int32 => (some (.inl (0, l)) : Option am_AC)) (tl_keep (fun i hi => by omega))))), (am_ne (by omega) (f3.trans (congrArg (fun l : List Int32 => (some (.inl (0, l)) : Option am_AC)) (tl_keep (fun i hi => by omega))))), (am_ne (by omega) (f4.trans (congrArg (fun l : List Int32 => (some (.inl (0, l)) : Option am_AC)) (tl_keep (fun i hi => by omega))))), (am_ne (by omega) (f5.trans (congrArg (fun l : List Int32 => (some (.inl (0, l)) : Option am_AC)) (tl_keep (fun i hi => by omega))))), (am_ne (by omega) (f6.trans (congrArg (fun l : List Int32 => (some (.inl (0, l)) : Option am_AC)) (tl_keep (fun i hi => by omega))))), (am_ne (by omega) (f7.trans (congrArg (fun l : List Int32 => (some (.inl (0, l)) : Option am_AC)) (tl_keep (fun i hi => by omega))))), (am_ne (by omega) (f8.trans (congrArg (fun l : List Int32 => (some (.inl (0, l)) : Option am_AC)) (tl_keep (fun i hi => by omega))))), (am_ne (by omega) f9), (am_ne (by omega) f10), (am_ne (by omega) f11)⟩
theorem qr_duel {b : Nat} {N : Nat → Int32} {tx : List Value} {lk mv : Nat → Int32} {h : am_H} {v : Int32} (F : QR b N tx lk mv h) : QR b (upd N 4 v) tx lk mv (am_up h b (.inr (0, (QO b N).set 4 (.int v)))) := by
  obtain ⟨f0, f1, f2, f3, f4, f5, f6, f7, f8, f9, f10, f11⟩ := F
  exact ⟨(am_eq.trans (by simp only [QO, List.set]; rw [pk_un (f := N) (k := 4) (j := 3) (by omega), pk_us (f := N) (k := 4), pk_un (f := N) (k := 4) (j := 5) (by omega), pk_un (f := N) (k := 4) (j := 6) (by omega), pk_un (f := N) (k := 4) (j := 2) (by omega), pk_un (f := N) (k := 4) (j := 0) (by omega), pk_un (f := N) (k := 4) (j := 1) (by omega), pk_un (f := N) (k := 4) (j := 7) (by omega)])), (am_ne (by omega) (f1.trans (congrArg (fun l : List Int32 => (some (.inl (0, l)) : Option am_AC)) (tl_keep (fun i hi => by omega))))), (am_ne (by omega) (f2.trans (congrArg (fun l : List Int32 => (some (.inl (0, l)) : Option am_AC)) (tl_keep (fun i hi => by omega))))), (am_ne (by omega) (f3.trans (congrArg (fun l : List Int32 => (some (.inl (0, l)) : Option am_AC)) (tl_keep (fun i hi => by omega))))), (am_ne (by omega) (f4.trans (congrArg (fun l : List Int32 => (some (.inl (0, l)) : Option am_AC)) (tl_keep (fun i hi => by omega))))), (am_ne (by omega) (f5.trans (congrArg (fun l : List Int32 => (some (.inl (0, l)) : Option am_AC)) (tl_keep (fun i hi => by omega))))), (am_ne (by omega) (f6.trans (congrArg (fun l : List Int32 => (some (.inl (0, l)) : Option am_AC)) (tl_keep (fun i hi => by omega))))), (am_ne (by omega) (f7.trans (congrArg (fun l : List Int32 => (some (.inl (0, l)) : Option am_AC)) (tl_keep (fun i hi => by omega))))), (am_ne (by omega) (f8.trans (congrArg (fun l : List Int32 => (some (.inl (0, l)) : Option am_AC)) (tl_keep (fun i hi => by omega))))), (am_ne (by omega) f9), (am_ne (by omega) f10), (am_ne (by omega) f11)⟩
theorem qr_loss {b : Nat} {N : Nat → Int32} {tx : List Value} {lk mv : Nat → Int32} {h : am_H} {v : Int32} (F : QR b N tx lk mv h) : QR b (upd N 5 v) tx lk mv (am_up h b (.inr (0, (QO b N).set 5 (.int v)))) := by
  obtain ⟨f0, f1, f2, f3, f4, f5, f6, f7, f8, f9, f10, f11⟩ := F
  exact ⟨(am_eq.trans (by simp only [QO, List.set]; rw [pk_un (f := N) (k := 5) (j := 3) (by omega), pk_un (f := N) (k := 5) (j := 4) (by omega), pk_us (f := N) (k := 5), pk_un (f := N) (k := 5) (j := 6) (by omega), pk_un (f := N) (k := 5) (j := 2) (by omega), pk_un (f := N) (k := 5) (j := 0) (by omega), pk_un (f := N) (k := 5) (j := 1) (by omega), pk_un (f := N) (k := 5) (j := 7) (by omega)])), (am_ne (by omega) (f1.trans (congrArg (fun l : List Int32 => (some (.inl (0, l)) : Option am_AC)) (tl_keep (fun i hi => by omega))))), (am_ne (by omega) (f2.trans (congrArg (fun l : List Int32 => (some (.inl (0, l)) : Option am_AC)) (tl_keep (fun i hi => by omega))))), (am_ne (by omega) (f3.trans (congrArg (fun l : List Int32 => (some (.inl (0, l)) : Option am_AC)) (tl_keep (fun i hi => by omega))))), (am_ne (by omega) (f4.trans (congrArg (fun l : List Int32 => (some (.inl (0, l)) : Option am_AC)) (tl_keep (fun i hi => by omega))))), (am_ne (by omega) (f5.trans (congrArg (fun l : List Int32 => (some (.inl (0, l)) : Option am_AC)) (tl_keep (fun i hi => by omega))))), (am_ne (by omega) (f6.trans (congrArg (fun l : List Int32 => (some (.inl (0, l)) : Option am_AC)) (tl_keep (fun i hi => by omega))))), (am_ne (by omega) (f7.trans (congrArg (fun l : List Int32 => (some (.inl (0, l)) : Option am_AC)) (tl_keep (fun i hi => by omega))))), (am_ne (by omega) (f8.trans (congrArg (fun l : List Int32 => (some (.inl (0, l)) : Option am_AC)) (tl_keep (fun i hi => by omega))))), (am_ne (by omega) f9), (am_ne (by omega) f10), (am_ne (by omega) f11)⟩
theorem qr_lost {b : Nat} {N : Nat → Int32} {tx : List Value} {lk mv : Nat → Int32} {h : am_H} {v : Int32} (F : QR b N tx lk mv h) : QR b (upd N 6 v) tx lk mv (am_up h b (.inr (0, (QO b N).set 6 (.int v)))) := by
  obtain ⟨f0, f1, f2, f3, f4, f5, f6, f7, f8, f9, f10, f11⟩ := F
  exact ⟨(am_eq.trans (by simp only [QO, List.set]; rw [pk_un (f := N) (k := 6) (j := 3) (by omega), pk_un (f := N) (k := 6) (j := 4) (by omega), pk_un (f := N) (k := 6) (j := 5) (by omega), pk_us (f := N) (k := 6), pk_un (f := N) (k := 6) (j := 2) (by omega), pk_un (f := N) (k := 6) (j := 0) (by omega), pk_un (f := N) (k := 6) (j := 1) (by omega), pk_un (f := N) (k := 6) (j := 7) (by omega)])), (am_ne (by omega) (f1.trans (congrArg (fun l : List Int32 => (some (.inl (0, l)) : Option am_AC)) (tl_keep (fun i hi => by omega))))), (am_ne (by omega) (f2.trans (congrArg (fun l : List Int32 => (some (.inl (0, l)) : Option am_AC)) (tl_keep (fun i hi => by omega))))), (am_ne (by omega) (f3.trans (congrArg (fun l : List Int32 => (some (.inl (0, l)) : Option am_AC)) (tl_keep (fun i hi => by omega))))), (am_ne (by omega) (f4.trans (congrArg (fun l : List Int32 => (some (.inl (0, l)) : Option am_AC)) (tl_keep (fun i hi => by omega))))), (am_ne (by omega) (f5.trans (congrArg (fun l : List Int32 => (some (.inl (0, l)) : Option am_AC)) (tl_keep (fun i hi => by omega))))), (am_ne (by omega) (f6.trans (congrArg (fun l : List Int32 => (some (.inl (0, l)) : Option am_AC)) (tl_keep (fun i hi => by omega))))), (am_ne (by omega) (f7.trans (congrArg (fun l : List Int32 => (some (.inl (0, l)) : Option am_AC)) (tl_keep (fun i hi => by omega))))), (am_ne (by omega) (f8.trans (congrArg (fun l : List Int32 => (some (.inl (0, l)) : Option am_AC)) (tl_keep (fun i hi => by omega))))), (am_ne (by omega) f9), (am_ne (by omega) f10), (am_ne (by omega) f11)⟩
theorem qr_post {b : Nat} {N : Nat → Int32} {tx : List Value} {lk mv : Nat → Int32} {h : am_H} {v : Int32} (F : QR b N tx lk mv h) : QR b (upd N 2 v) tx lk mv (am_up h b (.inr (0, (QO b N).set 7 (.int v)))) := by
  obtain ⟨f0, f1, f2, f3, f4, f5, f6, f7, f8, f9, f10, f11⟩ := F
  exact ⟨(am_eq.trans (by simp only [QO, List.set]; rw [pk_un (f := N) (k := 2) (j := 3) (by omega), pk_un (f := N) (k := 2) (j := 4) (by omega), pk_un (f := N) (k := 2) (j := 5) (by omega), pk_un (f := N) (k := 2) (j := 6) (by omega), pk_us (f := N) (k := 2), pk_un (f := N) (k := 2) (j := 0) (by omega), pk_un (f := N) (k := 2) (j := 1) (by omega), pk_un (f := N) (k := 2) (j := 7) (by omega)])), (am_ne (by omega) (f1.trans (congrArg (fun l : List Int32 => (some (.inl (0, l)) : Option am_AC)) (tl_keep (fun i hi => by omega))))), (am_ne (by omega) (f2.trans (congrArg (fun l : List Int32 => (some (.inl (0, l)) : Option am_AC)) (tl_keep (fun i hi => by omega))))), (am_ne (by omega) (f3.trans (congrArg (fun l : List Int32 => (some (.inl (0, l)) : Option am_AC)) (tl_keep (fun i hi => by omega))))), (am_ne (by omega) (f4.trans (congrArg (fun l : List Int32 => (some (.inl (0, l)) : Option am_AC)) (tl_keep (fun i hi => by omega))))), (am_ne (by omega) (f5.trans (congrArg (fun l : List Int32 => (some (.inl (0, l)) : Option am_AC)) (tl_keep (fun i hi => by omega))))), (am_ne (by omega) (f6.trans (congrArg (fun l : List Int32 => (some (.inl (0, l)) : Option am_AC)) (tl_keep (fun i hi => by omega))))), (am_ne (by omega) (f7.trans (congrArg (fun l : List Int32 => (some (.inl (0, l)) : Option am_AC)) (tl_keep (fun i hi => by omega))))), (am_ne (by omega) (f8.trans (congrArg (fun l : List Int32 => (some (.inl (0, l)) : Option am_AC)) (tl_keep (fun i hi => by omega))))), (am_ne (by omega) f9), (am_ne (by omega) f10), (am_ne (by omega) f11)⟩
theorem qr_z {b : Nat} {N : Nat → Int32} {tx : List Value} {lk mv : Nat → Int32} {h : am_H} {v : Int32} (F : QR b N tx lk mv h) : QR b (upd N 0 v) tx lk mv (am_up h b (.inr (0, (QO b N).set 8 (.int v)))) := by
  obtain ⟨f0, f1, f2, f3, f4, f5, f6, f7, f8, f9, f10, f11⟩ := F
  exact ⟨(am_eq.trans (by simp only [QO, List.set]; rw [pk_un (f := N) (k := 0) (j := 3) (by omega), pk_un (f := N) (k := 0) (j := 4) (by omega), pk_un (f := N) (k := 0) (j := 5) (by omega), pk_un (f := N) (k := 0) (j := 6) (by omega), pk_un (f := N) (k := 0) (j := 2) (by omega), pk_us (f := N) (k := 0), pk_un (f := N) (k := 0) (j := 1) (by omega), pk_un (f := N) (k := 0) (j := 7) (by omega)])), (am_ne (by omega) (f1.trans (congrArg (fun l : List Int32 => (some (.inl (0, l)) : Option am_AC)) (tl_keep (fun i hi => by omega))))), (am_ne (by omega) (f2.trans (congrArg (fun l : List Int32 => (some (.inl (0, l)) : Option am_AC)) (tl_keep (fun i hi => by omega))))), (am_ne (by omega) (f3.trans (congrArg (fun l : List Int32 => (some (.inl (0, l)) : Option am_AC)) (tl_keep (fun i hi => by omega))))), (am_ne (by omega) (f4.trans (congrArg (fun l : List Int32 => (some (.inl (0, l)) : Option am_AC)) (tl_keep (fun i hi => by omega))))), (am_ne (by omega) (f5.trans (congrArg (fun l : List Int32 => (some (.inl (0, l)) : Option am_AC)) (tl_keep (fun i hi => by omega))))), (am_ne (by omega) (f6.trans (congrArg (fun l : List Int32 => (some (.inl (0, l)) : Option am_AC)) (tl_keep (fun i hi => by omega))))), (am_ne (by omega) (f7.trans (congrArg (fun l : List Int32 => (some (.inl (0, l)) : Option am_AC)) (tl_keep (fun i hi => by omega))))), (am_ne (by omega) (f8.trans (congrArg (fun l : List Int32 => (some (.inl (0, l)) : Option am_AC)) (tl_keep (fun i hi => by omega))))), (am_ne (by omega) f9), (am_ne (by omega) f10), (am_ne (by omega) f11)⟩
theorem qr_friends {b : Nat} {N : Nat → Int32} {tx : List Value} {lk mv : Nat → Int32} {h : am_H} {v : Int32} (F : QR b N tx lk mv h) : QR b (upd N 1 v) tx lk mv (am_up h b (.inr (0, (QO b N).set 9 (.int v)))) := by
  obtain ⟨f0, f1, f2, f3, f4, f5, f6, f7, f8, f9, f10, f11⟩ := F
  exact ⟨(am_eq.trans (by simp only [QO, List.set]; rw [pk_un (f := N) (k := 1) (j := 3) (by omega), pk_un (f := N) (k := 1) (j := 4) (by omega), pk_un (f := N) (k := 1) (j := 5) (by omega), pk_un (f := N) (k := 1) (j := 6) (by omega), pk_un (f := N) (k := 1) (j := 2) (by omega), pk_un (f := N) (k := 1) (j := 0) (by omega), pk_us (f := N) (k := 1), pk_un (f := N) (k := 1) (j := 7) (by omega)])), (am_ne (by omega) (f1.trans (congrArg (fun l : List Int32 => (some (.inl (0, l)) : Option am_AC)) (tl_keep (fun i hi => by omega))))), (am_ne (by omega) (f2.trans (congrArg (fun l : List Int32 => (some (.inl (0, l)) : Option am_AC)) (tl_keep (fun i hi => by omega))))), (am_ne (by omega) (f3.trans (congrArg (fun l : List Int32 => (some (.inl (0, l)) : Option am_AC)) (tl_keep (fun i hi => by omega))))), (am_ne (by omega) (f4.trans (congrArg (fun l : List Int32 => (some (.inl (0, l)) : Option am_AC)) (tl_keep (fun i hi => by omega))))), (am_ne (by omega) (f5.trans (congrArg (fun l : List Int32 => (some (.inl (0, l)) : Option am_AC)) (tl_keep (fun i hi => by omega))))), (am_ne (by omega) (f6.trans (congrArg (fun l : List Int32 => (some (.inl (0, l)) : Option am_AC)) (tl_keep (fun i hi => by omega))))), (am_ne (by omega) (f7.trans (congrArg (fun l : List Int32 => (some (.inl (0, l)) : Option am_AC)) (tl_keep (fun i hi => by omega))))), (am_ne (by omega) (f8.trans (congrArg (fun l : List Int32 => (some (.inl (0, l)) : Option am_AC)) (tl_keep (fun i hi => by omega))))), (am_ne (by omega) f9), (am_ne (by omega) f10), (am_ne (by omega) f11)⟩
theorem qr_moves {b : Nat} {N : Nat → Int32} {tx : List Value} {lk mv : Nat → Int32} {h : am_H} {v : Int32} {j : Nat} (F : QR b N tx lk mv h) : QR b N tx lk (upd mv j v) (am_up h (b + 11) (.inl (0, (tl 4 mv).set j v))) := by
  obtain ⟨f0, f1, f2, f3, f4, f5, f6, f7, f8, f9, f10, f11⟩ := F
  exact ⟨am_ne (by omega) f0, am_ne (by omega) f1, am_ne (by omega) f2, am_ne (by omega) f3, am_ne (by omega) f4, am_ne (by omega) f5, am_ne (by omega) f6, am_ne (by omega) f7, am_ne (by omega) f8, am_ne (by omega) f9, am_ne (by omega) f10, am_eq.trans (congrArg (fun l : List Int32 => (some (.inl (0, l)) : Option am_AC)) tl_set)⟩
def am_fb (lo hi : Nat) (h' h : am_H) : Prop := ∀ k, (k < lo ∨ hi ≤ k) → h' k = h k
theorem am_fb0 {lo hi : Nat} {h : am_H} : am_fb lo hi h h := fun _ _ => rfl
theorem am_fbU {lo hi a : Nat} {h h' : am_H} {c : am_AC} (ha : lo ≤ a ∧ a < hi) (hf : am_fb lo hi h' h) : am_fb lo hi (am_up h' a c) h := fun k hk => by
  rw [am_nE (by omega)]
  exact hf k hk
theorem am_fbT {lo hi : Nat} {h h' h'' : am_H} (h1 : am_fb lo hi h'' h') (h2 : am_fb lo hi h' h) : am_fb lo hi h'' h := fun k hk => (h1 k hk).trans (h2 k hk)
theorem am_fbW {lo hi lo' hi' : Nat} {h h' : am_H} (hl : lo' ≤ lo ∧ hi ≤ hi') (h1 : am_fb lo hi h' h) : am_fb lo' hi' h' h := fun k hk => h1 k (by omega)
def hs0 (N : Nat → Int32) : Int32 := 0 + N 12 * N 8 + N 13 * N 9 + N 14 * N 10 + N 15 * N 11
def hs1 (N : Nat → Int32) : Int32 := 0 + N 16 * (9 - N 8) + N 17 * (9 - N 9) + N 18 * (9 - N 10) + N 19 * (9 - N 11)
def peace (N : Nat → Int32) : Prop := ¬ hs0 N < N 20 ∧ ¬ hs1 N < N 21
def duel (N : Nat → Int32) : Prop := ¬ N 3 < N 4
def snum (N : Nat → Int32) : Int32 := (((0 * 10 + N 8) * 10 + N 9) * 10 + N 10) * 10 + N 11
def drawZ (N : Nat → Int32) : Int32 := N 0 * 1103515245 + 12345
def drawN (N : Nat → Int32) : Nat → Int32 := upd N 0 (drawZ N)
def drawV (N : Nat → Int32) : Int32 := ((drawZ N).toUInt32 >>> (Int32.toUInt32 8 &&& Int32.toUInt32 31)).toInt32
def addN (N : Nat → Int32) (f : Nat) (k s p : Int32) : Nat → Int32 := upd (upd (upd (upd (upd (upd N (22 + 5 * f) k) (23 + 5 * f) s) (24 + 5 * f) p) (25 + 5 * f) 0) (26 + 5 * f) 0) 1 (nI (f + 1))
set_option maxHeartbeats 4000000 in
set_option maxRecDepth 100000 in
theorem g_isFriend {X : List Int32} {d rc rs n : Nat} {Q : am_Q} {b : Nat} {N : Nat → Int32} {tx : List Value} {lk mv : Nat → Int32} {h : am_H} {f : Int32} (F : QR b N tx lk mv h) (k1 : wi f 0 (N 1 - 1) → Q (some (.int 1)) n h) (k0 : ¬ wi f 0 (N 1 - 1) → Q (some (.int 0)) n h) : AW X mX0_isFriend (d + 2) rc rs 0 [some (.ref b), some (.int f)] [] n h Q := by
  refine aw_iload_n (npc := 1) rfl dX0_isFriend_0 rfl ?_
  refine aw_iconst (npc := 2) (v := 0) (by decide) dX0_isFriend_1 rfl ?_
  refine aw_aload_n (npc := 3) rfl dX0_isFriend_2 rfl ?_
  refine aw_get (npc := 6) dX0_isFriend_3 rfl kf_X0_40 F.1 rfl ?_
  refine aw_iconst (npc := 7) (v := 1) (by decide) dX0_isFriend_6 rfl ?_
  refine aw_isub (npc := 8) dX0_isFriend_7 rfl ?_
  refine aw_callSN (npc := 11) (N := mX7_within) (mc := 0) (ms := 0) (A := [.int f, .int 0, .int ((N 1) - 1)]) (S := []) (L0 := [some (.int f), some (.int 0), some (.int ((N 1) - 1))]) dX0_isFriend_8 rfl km_X7_within kk_X0_79 rfl ⟨rfl, by decide⟩ rfl (Nat.le_of_ble_eq_true rfl) (Nat.zero_add _) (Nat.zero_add _) rfl ?_
  refine c_X7_within (fun hw1 => ?_) (fun hw1 => ?_)
  · refine aw_re (S' := [.int 1]) rfl ?_
    refine aw_zret rfl rfl dX0_isFriend_11 ?_
    exact k1 hw1
  · refine aw_re (S' := [.int 0]) rfl ?_
    refine aw_zret rfl rfl dX0_isFriend_11 ?_
    exact k0 hw1
set_option maxHeartbeats 4000000 in
set_option maxRecDepth 100000 in
theorem g_draw {X : List Int32} {d rc rs n : Nat} {Q : am_Q} {b : Nat} {N : Nat → Int32} {tx : List Value} {lk mv : Nat → Int32} {h : am_H} (F : QR b N tx lk mv h) (hq : ∀ h9, QR b (drawN N) tx lk mv h9 → am_fb b (b + 12) h9 h → Q (some (.int (drawV N))) n h9) : AW X mX0_draw (d + 0) rc rs 0 [some (.ref b)] [] n h Q := by
  refine aw_aload_n (npc := 1) rfl dX0_draw_0 rfl ?_
  refine aw_aload_n (npc := 2) rfl dX0_draw_1 rfl ?_
  refine aw_get (npc := 5) dX0_draw_2 rfl kf_X0_37 F.1 rfl ?_
  refine aw_ldc (npc := 7) kc_X0_86 dX0_draw_5 rfl ?_
  refine aw_imul (npc := 8) dX0_draw_7 rfl ?_
  refine aw_sipush (npc := 11) (v := 12345) (by decide) dX0_draw_8 rfl ?_
  refine aw_iadd (npc := 12) dX0_draw_11 rfl ?_
  refine aw_put (npc := 15) dX0_draw_12 rfl kf_X0_37 F.1 (Nat.le_of_ble_eq_true rfl) (am_ok_int _) rfl ?_
  have F1 := qr_z (v := ((N 0) * 1103515245) + 12345) F
  refine aw_aload_n (npc := 16) rfl dX0_draw_15 rfl ?_
  refine aw_get (npc := 19) dX0_draw_16 rfl kf_X0_37 F1.1 rfl ?_
  refine aw_top (y := ((N 0) * 1103515245) + 12345) (pk_us) ?_
  refine aw_bipush (npc := 21) (v := 8) (by decide) dX0_draw_19 rfl ?_
  refine aw_iushr (npc := 22) dX0_draw_21 rfl ?_
  refine aw_iret rfl dX0_draw_22 ?_
  exact hq _ F1 (am_fbU (by omega) am_fb0)
set_option maxHeartbeats 4000000 in
set_option maxRecDepth 100000 in
theorem g_has0 {X : List Int32} {d rc rs n : Nat} {Q : am_Q} {b : Nat} {N : Nat → Int32} {tx : List Value} {lk mv : Nat → Int32} {h : am_H} (F : QR b N tx lk mv h) (hq : Q (some (.int (hs0 N))) n h) : AW X mX0_hasOf (d + 2) rc rs 0 [some (.ref b), some (.int 0), none, none, none] [] n h Q := by
  refine aw_iconst (npc := 1) (v := 0) (by decide) dX0_hasOf_0 rfl ?_
  refine aw_istore_n (npc := 2) (L' := [some (.ref b), some (.int 0), some (.int 0), none, none]) dX0_hasOf_1 rfl (by decide) rfl rfl ?_
  refine aw_iconst (npc := 3) (v := 0) (by decide) dX0_hasOf_2 rfl ?_
  refine aw_istore_n (npc := 4) (L' := [some (.ref b), some (.int 0), some (.int 0), some (.int 0), none]) dX0_hasOf_3 rfl (by decide) rfl rfl ?_
  refine aw_iload_n (npc := 5) rfl dX0_hasOf_4 rfl ?_
  refine aw_iconst (npc := 6) (v := 4) (by decide) dX0_hasOf_5 rfl ?_
  refine aw_icmp_ge (npc := 9) (tgt := 55) dX0_hasOf_6 rfl (by decide) (fun hc => absurd hc (by decide)) (fun _ => ?_)
  refine aw_iload_n (npc := 10) rfl dX0_hasOf_9 rfl ?_
  refine aw_if_ne (npc := 13) (tgt := 22) dX0_hasOf_10 rfl (by decide) (fun hc => absurd (by decide) hc) (fun _ => ?_)
  refine aw_aload_n (npc := 14) rfl dX0_hasOf_13 rfl ?_
  refine aw_get (npc := 17) dX0_hasOf_14 rfl kf_X0_9 F.1 rfl ?_
  refine aw_iload_n (npc := 18) rfl dX0_hasOf_17 rfl ?_
  refine aw_iald (npc := 19) (x := N 8) (j := 0) dX0_hasOf_18 rfl F.2.1 ⟨by decide, by decide⟩ (tl_at (by omega)) ?_
  refine aw_goto (npc := 31) dX0_hasOf_19 (by decide) ?_
  refine aw_istore (npc := 33) (L' := [some (.ref b), some (.int 0), some (.int 0), some (.int 0), some (.int (N 8))]) dX0_hasOf_31 rfl (by decide) rfl rfl ?_
  refine aw_iload_n (npc := 34) rfl dX0_hasOf_33 rfl ?_
  refine aw_aload_n (npc := 35) rfl dX0_hasOf_34 rfl ?_
  refine aw_get (npc := 38) dX0_hasOf_35 rfl kf_X0_15 F.1 rfl ?_
  refine aw_iload_n (npc := 39) rfl dX0_hasOf_38 rfl ?_
  refine aw_iload_n (npc := 40) rfl dX0_hasOf_39 rfl ?_
  refine aw_callSN (npc := 43) (N := mX7_carePlace) (mc := 0) (ms := 0) (A := [.int 0, .int 0]) (S := [.ref (b + 2), .int 0]) (L0 := [some (.int 0), some (.int 0)]) dX0_hasOf_40 rfl km_X7_carePlace kk_X0_87 rfl ⟨rfl, by decide⟩ rfl (Nat.le_of_ble_eq_true rfl) (Nat.zero_add _) (Nat.zero_add _) rfl ?_
  refine aw_iload_n (npc := 1) rfl dX7_carePlace_0 rfl ?_
  refine aw_iconst (npc := 2) (v := 4) (by decide) dX7_carePlace_1 rfl ?_
  refine aw_imulV (npc := 3) (v := 0) dX7_carePlace_2 rfl (by decide) ?_
  refine aw_iload_n (npc := 4) rfl dX7_carePlace_3 rfl ?_
  refine aw_iaddV (npc := 5) (v := 0) dX7_carePlace_4 rfl (by decide) ?_
  refine aw_iret rfl dX7_carePlace_5 ?_
  refine aw_re (S' := [.int 0, .ref (b + 2), .int 0]) rfl ?_
  refine aw_iald (npc := 44) (x := N 12) (j := 0) dX0_hasOf_43 rfl F.2.2.1 ⟨by decide, by decide⟩ (tl_at (by omega)) ?_
  refine aw_iload (npc := 46) rfl dX0_hasOf_44 rfl ?_
  refine aw_imul (npc := 47) dX0_hasOf_46 rfl ?_
  refine aw_iadd (npc := 48) dX0_hasOf_47 rfl ?_
  refine aw_istore_n (npc := 49) (L' := [some (.ref b), some (.int 0), some (.int (0 + ((N 12) * (N 8)))), some (.int 0), some (.int (N 8))]) dX0_hasOf_48 rfl (by decide) rfl rfl ?_
  refine aw_iinc (npc := 52) (v := 1) (L' := [some (.ref b), some (.int 0), some (.int (0 + ((N 12) * (N 8)))), some (.int 1), some (.int (N 8))]) dX0_hasOf_49 rfl rfl (by decide) (by decide) rfl rfl ?_
  refine aw_goto (npc := 4) dX0_hasOf_52 (by decide) ?_
  refine aw_iload_n (npc := 5) rfl dX0_hasOf_4 rfl ?_
  refine aw_iconst (npc := 6) (v := 4) (by decide) dX0_hasOf_5 rfl ?_
  refine aw_icmp_ge (npc := 9) (tgt := 55) dX0_hasOf_6 rfl (by decide) (fun hc => absurd hc (by decide)) (fun _ => ?_)
  refine aw_iload_n (npc := 10) rfl dX0_hasOf_9 rfl ?_
  refine aw_if_ne (npc := 13) (tgt := 22) dX0_hasOf_10 rfl (by decide) (fun hc => absurd (by decide) hc) (fun _ => ?_)
  refine aw_aload_n (npc := 14) rfl dX0_hasOf_13 rfl ?_
  refine aw_get (npc := 17) dX0_hasOf_14 rfl kf_X0_9 F.1 rfl ?_
  refine aw_iload_n (npc := 18) rfl dX0_hasOf_17 rfl ?_
  refine aw_iald (npc := 19) (x := N 9) (j := 1) dX0_hasOf_18 rfl F.2.1 ⟨by decide, by decide⟩ (tl_at (by omega)) ?_
  refine aw_goto (npc := 31) dX0_hasOf_19 (by decide) ?_
  refine aw_istore (npc := 33) (L' := [some (.ref b), some (.int 0), some (.int (0 + ((N 12) * (N 8)))), some (.int 1), some (.int (N 9))]) dX0_hasOf_31 rfl (by decide) rfl rfl ?_
  refine aw_iload_n (npc := 34) rfl dX0_hasOf_33 rfl ?_
  refine aw_aload_n (npc := 35) rfl dX0_hasOf_34 rfl ?_
  refine aw_get (npc := 38) dX0_hasOf_35 rfl kf_X0_15 F.1 rfl ?_
  refine aw_iload_n (npc := 39) rfl dX0_hasOf_38 rfl ?_
  refine aw_iload_n (npc := 40) rfl dX0_hasOf_39 rfl ?_
  refine aw_callSN (npc := 43) (N := mX7_carePlace) (mc := 0) (ms := 0) (A := [.int 0, .int 1]) (S := [.ref (b + 2), .int (0 + ((N 12) * (N 8)))]) (L0 := [some (.int 0), some (.int 1)]) dX0_hasOf_40 rfl km_X7_carePlace kk_X0_87 rfl ⟨rfl, by decide⟩ rfl (Nat.le_of_ble_eq_true rfl) (Nat.zero_add _) (Nat.zero_add _) rfl ?_
  refine aw_iload_n (npc := 1) rfl dX7_carePlace_0 rfl ?_
  refine aw_iconst (npc := 2) (v := 4) (by decide) dX7_carePlace_1 rfl ?_
  refine aw_imulV (npc := 3) (v := 0) dX7_carePlace_2 rfl (by decide) ?_
  refine aw_iload_n (npc := 4) rfl dX7_carePlace_3 rfl ?_
  refine aw_iaddV (npc := 5) (v := 1) dX7_carePlace_4 rfl (by decide) ?_
  refine aw_iret rfl dX7_carePlace_5 ?_
  refine aw_re (S' := [.int 1, .ref (b + 2), .int (0 + ((N 12) * (N 8)))]) rfl ?_
  refine aw_iald (npc := 44) (x := N 13) (j := 1) dX0_hasOf_43 rfl F.2.2.1 ⟨by decide, by decide⟩ (tl_at (by omega)) ?_
  refine aw_iload (npc := 46) rfl dX0_hasOf_44 rfl ?_
  refine aw_imul (npc := 47) dX0_hasOf_46 rfl ?_
  refine aw_iadd (npc := 48) dX0_hasOf_47 rfl ?_
  refine aw_istore_n (npc := 49) (L' := [some (.ref b), some (.int 0), some (.int ((0 + ((N 12) * (N 8))) + ((N 13) * (N 9)))), some (.int 1), some (.int (N 9))]) dX0_hasOf_48 rfl (by decide) rfl rfl ?_
  refine aw_iinc (npc := 52) (v := 2) (L' := [some (.ref b), some (.int 0), some (.int ((0 + ((N 12) * (N 8))) + ((N 13) * (N 9)))), some (.int 2), some (.int (N 9))]) dX0_hasOf_49 rfl rfl (by decide) (by decide) rfl rfl ?_
  refine aw_goto (npc := 4) dX0_hasOf_52 (by decide) ?_
  refine aw_iload_n (npc := 5) rfl dX0_hasOf_4 rfl ?_
  refine aw_iconst (npc := 6) (v := 4) (by decide) dX0_hasOf_5 rfl ?_
  refine aw_icmp_ge (npc := 9) (tgt := 55) dX0_hasOf_6 rfl (by decide) (fun hc => absurd hc (by decide)) (fun _ => ?_)
  refine aw_iload_n (npc := 10) rfl dX0_hasOf_9 rfl ?_
  refine aw_if_ne (npc := 13) (tgt := 22) dX0_hasOf_10 rfl (by decide) (fun hc => absurd (by decide) hc) (fun _ => ?_)
  refine aw_aload_n (npc := 14) rfl dX0_hasOf_13 rfl ?_
  refine aw_get (npc := 17) dX0_hasOf_14 rfl kf_X0_9 F.1 rfl ?_
  refine aw_iload_n (npc := 18) rfl dX0_hasOf_17 rfl ?_
  refine aw_iald (npc := 19) (x := N 10) (j := 2) dX0_hasOf_18 rfl F.2.1 ⟨by decide, by decide⟩ (tl_at (by omega)) ?_
  refine aw_goto (npc := 31) dX0_hasOf_19 (by decide) ?_
  refine aw_istore (npc := 33) (L' := [some (.ref b), some (.int 0), some (.int ((0 + ((N 12) * (N 8))) + ((N 13) * (N 9)))), some (.int 2), some (.int (N 10))]) dX0_hasOf_31 rfl (by decide) rfl rfl ?_
  refine aw_iload_n (npc := 34) rfl dX0_hasOf_33 rfl ?_
  refine aw_aload_n (npc := 35) rfl dX0_hasOf_34 rfl ?_
  refine aw_get (npc := 38) dX0_hasOf_35 rfl kf_X0_15 F.1 rfl ?_
  refine aw_iload_n (npc := 39) rfl dX0_hasOf_38 rfl ?_
  refine aw_iload_n (npc := 40) rfl dX0_hasOf_39 rfl ?_
  refine aw_callSN (npc := 43) (N := mX7_carePlace) (mc := 0) (ms := 0) (A := [.int 0, .int 2]) (S := [.ref (b + 2), .int ((0 + ((N 12) * (N 8))) + ((N 13) * (N 9)))]) (L0 := [some (.int 0), some (.int 2)]) dX0_hasOf_40 rfl km_X7_carePlace kk_X0_87 rfl ⟨rfl, by decide⟩ rfl (Nat.le_of_ble_eq_true rfl) (Nat.zero_add _) (Nat.zero_add _) rfl ?_
  refine aw_iload_n (npc := 1) rfl dX7_carePlace_0 rfl ?_
  refine aw_iconst (npc := 2) (v := 4) (by decide) dX7_carePlace_1 rfl ?_
  refine aw_imulV (npc := 3) (v := 0) dX7_carePlace_2 rfl (by decide) ?_
  refine aw_iload_n (npc := 4) rfl dX7_carePlace_3 rfl ?_
  refine aw_iaddV (npc := 5) (v := 2) dX7_carePlace_4 rfl (by decide) ?_
  refine aw_iret rfl dX7_carePlace_5 ?_
  refine aw_re (S' := [.int 2, .ref (b + 2), .int ((0 + ((N 12) * (N 8))) + ((N 13) * (N 9)))]) rfl ?_
  refine aw_iald (npc := 44) (x := N 14) (j := 2) dX0_hasOf_43 rfl F.2.2.1 ⟨by decide, by decide⟩ (tl_at (by omega)) ?_
  refine aw_iload (npc := 46) rfl dX0_hasOf_44 rfl ?_
  refine aw_imul (npc := 47) dX0_hasOf_46 rfl ?_
  refine aw_iadd (npc := 48) dX0_hasOf_47 rfl ?_
  refine aw_istore_n (npc := 49) (L' := [some (.ref b), some (.int 0), some (.int (((0 + ((N 12) * (N 8))) + ((N 13) * (N 9))) + ((N 14) * (N 10)))), some (.int 2), some (.int (N 10))]) dX0_hasOf_48 rfl (by decide) rfl rfl ?_
  refine aw_iinc (npc := 52) (v := 3) (L' := [some (.ref b), some (.int 0), some (.int (((0 + ((N 12) * (N 8))) + ((N 13) * (N 9))) + ((N 14) * (N 10)))), some (.int 3), some (.int (N 10))]) dX0_hasOf_49 rfl rfl (by decide) (by decide) rfl rfl ?_
  refine aw_goto (npc := 4) dX0_hasOf_52 (by decide) ?_
  refine aw_iload_n (npc := 5) rfl dX0_hasOf_4 rfl ?_
  refine aw_iconst (npc := 6) (v := 4) (by decide) dX0_hasOf_5 rfl ?_
  refine aw_icmp_ge (npc := 9) (tgt := 55) dX0_hasOf_6 rfl (by decide) (fun hc => absurd hc (by decide)) (fun _ => ?_)
  refine aw_iload_n (npc := 10) rfl dX0_hasOf_9 rfl ?_
  refine aw_if_ne (npc := 13) (tgt := 22) dX0_hasOf_10 rfl (by decide) (fun hc => absurd (by decide) hc) (fun _ => ?_)
  refine aw_aload_n (npc := 14) rfl dX0_hasOf_13 rfl ?_
  refine aw_get (npc := 17) dX0_hasOf_14 rfl kf_X0_9 F.1 rfl ?_
  refine aw_iload_n (npc := 18) rfl dX0_hasOf_17 rfl ?_
  refine aw_iald (npc := 19) (x := N 11) (j := 3) dX0_hasOf_18 rfl F.2.1 ⟨by decide, by decide⟩ (tl_at (by omega)) ?_
  refine aw_goto (npc := 31) dX0_hasOf_19 (by decide) ?_
  refine aw_istore (npc := 33) (L' := [some (.ref b), some (.int 0), some (.int (((0 + ((N 12) * (N 8))) + ((N 13) * (N 9))) + ((N 14) * (N 10)))), some (.int 3), some (.int (N 11))]) dX0_hasOf_31 rfl (by decide) rfl rfl ?_
  refine aw_iload_n (npc := 34) rfl dX0_hasOf_33 rfl ?_
  refine aw_aload_n (npc := 35) rfl dX0_hasOf_34 rfl ?_
  refine aw_get (npc := 38) dX0_hasOf_35 rfl kf_X0_15 F.1 rfl ?_
  refine aw_iload_n (npc := 39) rfl dX0_hasOf_38 rfl ?_
  refine aw_iload_n (npc := 40) rfl dX0_hasOf_39 rfl ?_
  refine aw_callSN (npc := 43) (N := mX7_carePlace) (mc := 0) (ms := 0) (A := [.int 0, .int 3]) (S := [.ref (b + 2), .int (((0 + ((N 12) * (N 8))) + ((N 13) * (N 9))) + ((N 14) * (N 10)))]) (L0 := [some (.int 0), some (.int 3)]) dX0_hasOf_40 rfl km_X7_carePlace kk_X0_87 rfl ⟨rfl, by decide⟩ rfl (Nat.le_of_ble_eq_true rfl) (Nat.zero_add _) (Nat.zero_add _) rfl ?_
  refine aw_iload_n (npc := 1) rfl dX7_carePlace_0 rfl ?_
  refine aw_iconst (npc := 2) (v := 4) (by decide) dX7_carePlace_1 rfl ?_
  refine aw_imulV (npc := 3) (v := 0) dX7_carePlace_2 rfl (by decide) ?_
  refine aw_iload_n (npc := 4) rfl dX7_carePlace_3 rfl ?_
  refine aw_iaddV (npc := 5) (v := 3) dX7_carePlace_4 rfl (by decide) ?_
  refine aw_iret rfl dX7_carePlace_5 ?_
  refine aw_re (S' := [.int 3, .ref (b + 2), .int (((0 + ((N 12) * (N 8))) + ((N 13) * (N 9))) + ((N 14) * (N 10)))]) rfl ?_
  refine aw_iald (npc := 44) (x := N 15) (j := 3) dX0_hasOf_43 rfl F.2.2.1 ⟨by decide, by decide⟩ (tl_at (by omega)) ?_
  refine aw_iload (npc := 46) rfl dX0_hasOf_44 rfl ?_
  refine aw_imul (npc := 47) dX0_hasOf_46 rfl ?_
  refine aw_iadd (npc := 48) dX0_hasOf_47 rfl ?_
  refine aw_istore_n (npc := 49) (L' := [some (.ref b), some (.int 0), some (.int ((((0 + ((N 12) * (N 8))) + ((N 13) * (N 9))) + ((N 14) * (N 10))) + ((N 15) * (N 11)))), some (.int 3), some (.int (N 11))]) dX0_hasOf_48 rfl (by decide) rfl rfl ?_
  refine aw_iinc (npc := 52) (v := 4) (L' := [some (.ref b), some (.int 0), some (.int ((((0 + ((N 12) * (N 8))) + ((N 13) * (N 9))) + ((N 14) * (N 10))) + ((N 15) * (N 11)))), some (.int 4), some (.int (N 11))]) dX0_hasOf_49 rfl rfl (by decide) (by decide) rfl rfl ?_
  refine aw_goto (npc := 4) dX0_hasOf_52 (by decide) ?_
  refine aw_iload_n (npc := 5) rfl dX0_hasOf_4 rfl ?_
  refine aw_iconst (npc := 6) (v := 4) (by decide) dX0_hasOf_5 rfl ?_
  refine aw_icmp_ge (npc := 9) (tgt := 55) dX0_hasOf_6 rfl (by decide) (fun _ => ?_) (fun hc => absurd (by decide) hc)
  refine aw_iload_n (npc := 56) rfl dX0_hasOf_55 rfl ?_
  refine aw_iret rfl dX0_hasOf_56 ?_
  exact hq
set_option maxHeartbeats 4000000 in
set_option maxRecDepth 100000 in
theorem g_has1 {X : List Int32} {d rc rs n : Nat} {Q : am_Q} {b : Nat} {N : Nat → Int32} {tx : List Value} {lk mv : Nat → Int32} {h : am_H} (F : QR b N tx lk mv h) (hq : Q (some (.int (hs1 N))) n h) : AW X mX0_hasOf (d + 2) rc rs 0 [some (.ref b), some (.int 1), none, none, none] [] n h Q := by
  refine aw_iconst (npc := 1) (v := 0) (by decide) dX0_hasOf_0 rfl ?_
  refine aw_istore_n (npc := 2) (L' := [some (.ref b), some (.int 1), some (.int 0), none, none]) dX0_hasOf_1 rfl (by decide) rfl rfl ?_
  refine aw_iconst (npc := 3) (v := 0) (by decide) dX0_hasOf_2 rfl ?_
  refine aw_istore_n (npc := 4) (L' := [some (.ref b), some (.int 1), some (.int 0), some (.int 0), none]) dX0_hasOf_3 rfl (by decide) rfl rfl ?_
  refine aw_iload_n (npc := 5) rfl dX0_hasOf_4 rfl ?_
  refine aw_iconst (npc := 6) (v := 4) (by decide) dX0_hasOf_5 rfl ?_
  refine aw_icmp_ge (npc := 9) (tgt := 55) dX0_hasOf_6 rfl (by decide) (fun hc => absurd hc (by decide)) (fun _ => ?_)
  refine aw_iload_n (npc := 10) rfl dX0_hasOf_9 rfl ?_
  refine aw_if_ne (npc := 13) (tgt := 22) dX0_hasOf_10 rfl (by decide) (fun _ => ?_) (fun hc => absurd hc (by decide))
  refine aw_bipush (npc := 24) (v := 9) (by decide) dX0_hasOf_22 rfl ?_
  refine aw_aload_n (npc := 25) rfl dX0_hasOf_24 rfl ?_
  refine aw_get (npc := 28) dX0_hasOf_25 rfl kf_X0_9 F.1 rfl ?_
  refine aw_iload_n (npc := 29) rfl dX0_hasOf_28 rfl ?_
  refine aw_iald (npc := 30) (x := N 8) (j := 0) dX0_hasOf_29 rfl F.2.1 ⟨by decide, by decide⟩ (tl_at (by omega)) ?_
  refine aw_isub (npc := 31) dX0_hasOf_30 rfl ?_
  refine aw_istore (npc := 33) (L' := [some (.ref b), some (.int 1), some (.int 0), some (.int 0), some (.int (9 - (N 8)))]) dX0_hasOf_31 rfl (by decide) rfl rfl ?_
  refine aw_iload_n (npc := 34) rfl dX0_hasOf_33 rfl ?_
  refine aw_aload_n (npc := 35) rfl dX0_hasOf_34 rfl ?_
  refine aw_get (npc := 38) dX0_hasOf_35 rfl kf_X0_15 F.1 rfl ?_
  refine aw_iload_n (npc := 39) rfl dX0_hasOf_38 rfl ?_
  refine aw_iload_n (npc := 40) rfl dX0_hasOf_39 rfl ?_
  refine aw_callSN (npc := 43) (N := mX7_carePlace) (mc := 0) (ms := 0) (A := [.int 1, .int 0]) (S := [.ref (b + 2), .int 0]) (L0 := [some (.int 1), some (.int 0)]) dX0_hasOf_40 rfl km_X7_carePlace kk_X0_87 rfl ⟨rfl, by decide⟩ rfl (Nat.le_of_ble_eq_true rfl) (Nat.zero_add _) (Nat.zero_add _) rfl ?_
  refine aw_iload_n (npc := 1) rfl dX7_carePlace_0 rfl ?_
  refine aw_iconst (npc := 2) (v := 4) (by decide) dX7_carePlace_1 rfl ?_
  refine aw_imulV (npc := 3) (v := 4) dX7_carePlace_2 rfl (by decide) ?_
  refine aw_iload_n (npc := 4) rfl dX7_carePlace_3 rfl ?_
  refine aw_iaddV (npc := 5) (v := 4) dX7_carePlace_4 rfl (by decide) ?_
  refine aw_iret rfl dX7_carePlace_5 ?_
  refine aw_re (S' := [.int 4, .ref (b + 2), .int 0]) rfl ?_
  refine aw_iald (npc := 44) (x := N 16) (j := 4) dX0_hasOf_43 rfl F.2.2.1 ⟨by decide, by decide⟩ (tl_at (by omega)) ?_
  refine aw_iload (npc := 46) rfl dX0_hasOf_44 rfl ?_
  refine aw_imul (npc := 47) dX0_hasOf_46 rfl ?_
  refine aw_iadd (npc := 48) dX0_hasOf_47 rfl ?_
  refine aw_istore_n (npc := 49) (L' := [some (.ref b), some (.int 1), some (.int (0 + ((N 16) * (9 - (N 8))))), some (.int 0), some (.int (9 - (N 8)))]) dX0_hasOf_48 rfl (by decide) rfl rfl ?_
  refine aw_iinc (npc := 52) (v := 1) (L' := [some (.ref b), some (.int 1), some (.int (0 + ((N 16) * (9 - (N 8))))), some (.int 1), some (.int (9 - (N 8)))]) dX0_hasOf_49 rfl rfl (by decide) (by decide) rfl rfl ?_
  refine aw_goto (npc := 4) dX0_hasOf_52 (by decide) ?_
  refine aw_iload_n (npc := 5) rfl dX0_hasOf_4 rfl ?_
  refine aw_iconst (npc := 6) (v := 4) (by decide) dX0_hasOf_5 rfl ?_
  refine aw_icmp_ge (npc := 9) (tgt := 55) dX0_hasOf_6 rfl (by decide) (fun hc => absurd hc (by decide)) (fun _ => ?_)
  refine aw_iload_n (npc := 10) rfl dX0_hasOf_9 rfl ?_
  refine aw_if_ne (npc := 13) (tgt := 22) dX0_hasOf_10 rfl (by decide) (fun _ => ?_) (fun hc => absurd hc (by decide))
  refine aw_bipush (npc := 24) (v := 9) (by decide) dX0_hasOf_22 rfl ?_
  refine aw_aload_n (npc := 25) rfl dX0_hasOf_24 rfl ?_
  refine aw_get (npc := 28) dX0_hasOf_25 rfl kf_X0_9 F.1 rfl ?_
  refine aw_iload_n (npc := 29) rfl dX0_hasOf_28 rfl ?_
  refine aw_iald (npc := 30) (x := N 9) (j := 1) dX0_hasOf_29 rfl F.2.1 ⟨by decide, by decide⟩ (tl_at (by omega)) ?_
  refine aw_isub (npc := 31) dX0_hasOf_30 rfl ?_
  refine aw_istore (npc := 33) (L' := [some (.ref b), some (.int 1), some (.int (0 + ((N 16) * (9 - (N 8))))), some (.int 1), some (.int (9 - (N 9)))]) dX0_hasOf_31 rfl (by decide) rfl rfl ?_
  refine aw_iload_n (npc := 34) rfl dX0_hasOf_33 rfl ?_
  refine aw_aload_n (npc := 35) rfl dX0_hasOf_34 rfl ?_
  refine aw_get (npc := 38) dX0_hasOf_35 rfl kf_X0_15 F.1 rfl ?_
  refine aw_iload_n (npc := 39) rfl dX0_hasOf_38 rfl ?_
  refine aw_iload_n (npc := 40) rfl dX0_hasOf_39 rfl ?_
  refine aw_callSN (npc := 43) (N := mX7_carePlace) (mc := 0) (ms := 0) (A := [.int 1, .int 1]) (S := [.ref (b + 2), .int (0 + ((N 16) * (9 - (N 8))))]) (L0 := [some (.int 1), some (.int 1)]) dX0_hasOf_40 rfl km_X7_carePlace kk_X0_87 rfl ⟨rfl, by decide⟩ rfl (Nat.le_of_ble_eq_true rfl) (Nat.zero_add _) (Nat.zero_add _) rfl ?_
  refine aw_iload_n (npc := 1) rfl dX7_carePlace_0 rfl ?_
  refine aw_iconst (npc := 2) (v := 4) (by decide) dX7_carePlace_1 rfl ?_
  refine aw_imulV (npc := 3) (v := 4) dX7_carePlace_2 rfl (by decide) ?_
  refine aw_iload_n (npc := 4) rfl dX7_carePlace_3 rfl ?_
  refine aw_iaddV (npc := 5) (v := 5) dX7_carePlace_4 rfl (by decide) ?_
  refine aw_iret rfl dX7_carePlace_5 ?_
  refine aw_re (S' := [.int 5, .ref (b + 2), .int (0 + ((N 16) * (9 - (N 8))))]) rfl ?_
  refine aw_iald (npc := 44) (x := N 17) (j := 5) dX0_hasOf_43 rfl F.2.2.1 ⟨by decide, by decide⟩ (tl_at (by omega)) ?_
  refine aw_iload (npc := 46) rfl dX0_hasOf_44 rfl ?_
  refine aw_imul (npc := 47) dX0_hasOf_46 rfl ?_
  refine aw_iadd (npc := 48) dX0_hasOf_47 rfl ?_
  refine aw_istore_n (npc := 49) (L' := [some (.ref b), some (.int 1), some (.int ((0 + ((N 16) * (9 - (N 8)))) + ((N 17) * (9 - (N 9))))), some (.int 1), some (.int (9 - (N 9)))]) dX0_hasOf_48 rfl (by decide) rfl rfl ?_
  refine aw_iinc (npc := 52) (v := 2) (L' := [some (.ref b), some (.int 1), some (.int ((0 + ((N 16) * (9 - (N 8)))) + ((N 17) * (9 - (N 9))))), some (.int 2), some (.int (9 - (N 9)))]) dX0_hasOf_49 rfl rfl (by decide) (by decide) rfl rfl ?_
  refine aw_goto (npc := 4) dX0_hasOf_52 (by decide) ?_
  refine aw_iload_n (npc := 5) rfl dX0_hasOf_4 rfl ?_
  refine aw_iconst (npc := 6) (v := 4) (by decide) dX0_hasOf_5 rfl ?_
  refine aw_icmp_ge (npc := 9) (tgt := 55) dX0_hasOf_6 rfl (by decide) (fun hc => absurd hc (by decide)) (fun _ => ?_)
  refine aw_iload_n (npc := 10) rfl dX0_hasOf_9 rfl ?_
  refine aw_if_ne (npc := 13) (tgt := 22) dX0_hasOf_10 rfl (by decide) (fun _ => ?_) (fun hc => absurd hc (by decide))
  refine aw_bipush (npc := 24) (v := 9) (by decide) dX0_hasOf_22 rfl ?_
  refine aw_aload_n (npc := 25) rfl dX0_hasOf_24 rfl ?_
  refine aw_get (npc := 28) dX0_hasOf_25 rfl kf_X0_9 F.1 rfl ?_
  refine aw_iload_n (npc := 29) rfl dX0_hasOf_28 rfl ?_
  refine aw_iald (npc := 30) (x := N 10) (j := 2) dX0_hasOf_29 rfl F.2.1 ⟨by decide, by decide⟩ (tl_at (by omega)) ?_
  refine aw_isub (npc := 31) dX0_hasOf_30 rfl ?_
  refine aw_istore (npc := 33) (L' := [some (.ref b), some (.int 1), some (.int ((0 + ((N 16) * (9 - (N 8)))) + ((N 17) * (9 - (N 9))))), some (.int 2), some (.int (9 - (N 10)))]) dX0_hasOf_31 rfl (by decide) rfl rfl ?_
  refine aw_iload_n (npc := 34) rfl dX0_hasOf_33 rfl ?_
  refine aw_aload_n (npc := 35) rfl dX0_hasOf_34 rfl ?_
  refine aw_get (npc := 38) dX0_hasOf_35 rfl kf_X0_15 F.1 rfl ?_
  refine aw_iload_n (npc := 39) rfl dX0_hasOf_38 rfl ?_
  refine aw_iload_n (npc := 40) rfl dX0_hasOf_39 rfl ?_
  refine aw_callSN (npc := 43) (N := mX7_carePlace) (mc := 0) (ms := 0) (A := [.int 1, .int 2]) (S := [.ref (b + 2), .int ((0 + ((N 16) * (9 - (N 8)))) + ((N 17) * (9 - (N 9))))]) (L0 := [some (.int 1), some (.int 2)]) dX0_hasOf_40 rfl km_X7_carePlace kk_X0_87 rfl ⟨rfl, by decide⟩ rfl (Nat.le_of_ble_eq_true rfl) (Nat.zero_add _) (Nat.zero_add _) rfl ?_
  refine aw_iload_n (npc := 1) rfl dX7_carePlace_0 rfl ?_
  refine aw_iconst (npc := 2) (v := 4) (by decide) dX7_carePlace_1 rfl ?_
  refine aw_imulV (npc := 3) (v := 4) dX7_carePlace_2 rfl (by decide) ?_
  refine aw_iload_n (npc := 4) rfl dX7_carePlace_3 rfl ?_
  refine aw_iaddV (npc := 5) (v := 6) dX7_carePlace_4 rfl (by decide) ?_
  refine aw_iret rfl dX7_carePlace_5 ?_
  refine aw_re (S' := [.int 6, .ref (b + 2), .int ((0 + ((N 16) * (9 - (N 8)))) + ((N 17) * (9 - (N 9))))]) rfl ?_
  refine aw_iald (npc := 44) (x := N 18) (j := 6) dX0_hasOf_43 rfl F.2.2.1 ⟨by decide, by decide⟩ (tl_at (by omega)) ?_
  refine aw_iload (npc := 46) rfl dX0_hasOf_44 rfl ?_
  refine aw_imul (npc := 47) dX0_hasOf_46 rfl ?_
  refine aw_iadd (npc := 48) dX0_hasOf_47 rfl ?_
  refine aw_istore_n (npc := 49) (L' := [some (.ref b), some (.int 1), some (.int (((0 + ((N 16) * (9 - (N 8)))) + ((N 17) * (9 - (N 9)))) + ((N 18) * (9 - (N 10))))), some (.int 2), some (.int (9 - (N 10)))]) dX0_hasOf_48 rfl (by decide) rfl rfl ?_
  refine aw_iinc (npc := 52) (v := 3) (L' := [some (.ref b), some (.int 1), some (.int (((0 + ((N 16) * (9 - (N 8)))) + ((N 17) * (9 - (N 9)))) + ((N 18) * (9 - (N 10))))), some (.int 3), some (.int (9 - (N 10)))]) dX0_hasOf_49 rfl rfl (by decide) (by decide) rfl rfl ?_
  refine aw_goto (npc := 4) dX0_hasOf_52 (by decide) ?_
  refine aw_iload_n (npc := 5) rfl dX0_hasOf_4 rfl ?_
  refine aw_iconst (npc := 6) (v := 4) (by decide) dX0_hasOf_5 rfl ?_
  refine aw_icmp_ge (npc := 9) (tgt := 55) dX0_hasOf_6 rfl (by decide) (fun hc => absurd hc (by decide)) (fun _ => ?_)
  refine aw_iload_n (npc := 10) rfl dX0_hasOf_9 rfl ?_
  refine aw_if_ne (npc := 13) (tgt := 22) dX0_hasOf_10 rfl (by decide) (fun _ => ?_) (fun hc => absurd hc (by decide))
  refine aw_bipush (npc := 24) (v := 9) (by decide) dX0_hasOf_22 rfl ?_
  refine aw_aload_n (npc := 25) rfl dX0_hasOf_24 rfl ?_
  refine aw_get (npc := 28) dX0_hasOf_25 rfl kf_X0_9 F.1 rfl ?_
  refine aw_iload_n (npc := 29) rfl dX0_hasOf_28 rfl ?_
  refine aw_iald (npc := 30) (x := N 11) (j := 3) dX0_hasOf_29 rfl F.2.1 ⟨by decide, by decide⟩ (tl_at (by omega)) ?_
  refine aw_isub (npc := 31) dX0_hasOf_30 rfl ?_
  refine aw_istore (npc := 33) (L' := [some (.ref b), some (.int 1), some (.int (((0 + ((N 16) * (9 - (N 8)))) + ((N 17) * (9 - (N 9)))) + ((N 18) * (9 - (N 10))))), some (.int 3), some (.int (9 - (N 11)))]) dX0_hasOf_31 rfl (by decide) rfl rfl ?_
  refine aw_iload_n (npc := 34) rfl dX0_hasOf_33 rfl ?_
  refine aw_aload_n (npc := 35) rfl dX0_hasOf_34 rfl ?_
  refine aw_get (npc := 38) dX0_hasOf_35 rfl kf_X0_15 F.1 rfl ?_
  refine aw_iload_n (npc := 39) rfl dX0_hasOf_38 rfl ?_
  refine aw_iload_n (npc := 40) rfl dX0_hasOf_39 rfl ?_
  refine aw_callSN (npc := 43) (N := mX7_carePlace) (mc := 0) (ms := 0) (A := [.int 1, .int 3]) (S := [.ref (b + 2), .int (((0 + ((N 16) * (9 - (N 8)))) + ((N 17) * (9 - (N 9)))) + ((N 18) * (9 - (N 10))))]) (L0 := [some (.int 1), some (.int 3)]) dX0_hasOf_40 rfl km_X7_carePlace kk_X0_87 rfl ⟨rfl, by decide⟩ rfl (Nat.le_of_ble_eq_true rfl) (Nat.zero_add _) (Nat.zero_add _) rfl ?_
  refine aw_iload_n (npc := 1) rfl dX7_carePlace_0 rfl ?_
  refine aw_iconst (npc := 2) (v := 4) (by decide) dX7_carePlace_1 rfl ?_
  refine aw_imulV (npc := 3) (v := 4) dX7_carePlace_2 rfl (by decide) ?_
  refine aw_iload_n (npc := 4) rfl dX7_carePlace_3 rfl ?_
  refine aw_iaddV (npc := 5) (v := 7) dX7_carePlace_4 rfl (by decide) ?_
  refine aw_iret rfl dX7_carePlace_5 ?_
  refine aw_re (S' := [.int 7, .ref (b + 2), .int (((0 + ((N 16) * (9 - (N 8)))) + ((N 17) * (9 - (N 9)))) + ((N 18) * (9 - (N 10))))]) rfl ?_
  refine aw_iald (npc := 44) (x := N 19) (j := 7) dX0_hasOf_43 rfl F.2.2.1 ⟨by decide, by decide⟩ (tl_at (by omega)) ?_
  refine aw_iload (npc := 46) rfl dX0_hasOf_44 rfl ?_
  refine aw_imul (npc := 47) dX0_hasOf_46 rfl ?_
  refine aw_iadd (npc := 48) dX0_hasOf_47 rfl ?_
  refine aw_istore_n (npc := 49) (L' := [some (.ref b), some (.int 1), some (.int ((((0 + ((N 16) * (9 - (N 8)))) + ((N 17) * (9 - (N 9)))) + ((N 18) * (9 - (N 10)))) + ((N 19) * (9 - (N 11))))), some (.int 3), some (.int (9 - (N 11)))]) dX0_hasOf_48 rfl (by decide) rfl rfl ?_
  refine aw_iinc (npc := 52) (v := 4) (L' := [some (.ref b), some (.int 1), some (.int ((((0 + ((N 16) * (9 - (N 8)))) + ((N 17) * (9 - (N 9)))) + ((N 18) * (9 - (N 10)))) + ((N 19) * (9 - (N 11))))), some (.int 4), some (.int (9 - (N 11)))]) dX0_hasOf_49 rfl rfl (by decide) (by decide) rfl rfl ?_
  refine aw_goto (npc := 4) dX0_hasOf_52 (by decide) ?_
  refine aw_iload_n (npc := 5) rfl dX0_hasOf_4 rfl ?_
  refine aw_iconst (npc := 6) (v := 4) (by decide) dX0_hasOf_5 rfl ?_
  refine aw_icmp_ge (npc := 9) (tgt := 55) dX0_hasOf_6 rfl (by decide) (fun _ => ?_) (fun hc => absurd (by decide) hc)
  refine aw_iload_n (npc := 56) rfl dX0_hasOf_55 rfl ?_
  refine aw_iret rfl dX0_hasOf_56 ?_
  exact hq
set_option maxHeartbeats 4000000 in
set_option maxRecDepth 100000 in
theorem g_peace {X : List Int32} {d rc rs n : Nat} {Q : am_Q} {b : Nat} {N : Nat → Int32} {tx : List Value} {lk mv : Nat → Int32} {h : am_H} (F : QR b N tx lk mv h) (k1 : peace N → Q (some (.int 1)) n h) (k0 : ¬ peace N → Q (some (.int 0)) n h) : AW X mX0_isPeace (d + 4) rc rs 0 [some (.ref b)] [] n h Q := by
  refine aw_aload_n (npc := 1) rfl dX0_isPeace_0 rfl ?_
  refine aw_iconst (npc := 2) (v := 0) (by decide) dX0_isPeace_1 rfl ?_
  refine aw_callV (npc := 5) (N := mX0_hasOf) (b := b) (mc := 0) (ms := 0) (A := [.int 0]) (S := []) (L0 := [some (.ref b), some (.int 0), none, none, none]) dX0_isPeace_2 rfl km_X0_hasOf kk_X0_91 F.1 ⟨by decide, rfl⟩ rfl ⟨rfl, by decide⟩ rfl (Nat.le_of_ble_eq_true rfl) (Nat.zero_add _) (Nat.zero_add _) rfl ?_
  refine g_has0 F ?_
  refine aw_re (S' := [.int (hs0 N)]) rfl ?_
  refine aw_aload_n (npc := 6) rfl dX0_isPeace_5 rfl ?_
  refine aw_get (npc := 9) dX0_isPeace_6 rfl kf_X0_18 F.1 rfl ?_
  refine aw_iconst (npc := 10) (v := 0) (by decide) dX0_isPeace_9 rfl ?_
  refine aw_iald (npc := 11) (x := N 20) (j := 0) dX0_isPeace_10 rfl F.2.2.2.1 ⟨by decide, by decide⟩ (tl_at (by omega)) ?_
  refine aw_icmp_lt (npc := 14) (tgt := 32) dX0_isPeace_11 rfl (by decide) (fun hc1 => ?_) (fun hc1 => ?_)
  · refine aw_iconst (npc := 33) (v := 0) (by decide) dX0_isPeace_32 rfl ?_
    refine aw_zret rfl rfl dX0_isPeace_33 ?_
    exact k0 (fun h9 => h9.1 hc1)
  · refine aw_aload_n (npc := 15) rfl dX0_isPeace_14 rfl ?_
    refine aw_iconst (npc := 16) (v := 1) (by decide) dX0_isPeace_15 rfl ?_
    refine aw_callV (npc := 19) (N := mX0_hasOf) (b := b) (mc := 0) (ms := 0) (A := [.int 1]) (S := []) (L0 := [some (.ref b), some (.int 1), none, none, none]) dX0_isPeace_16 rfl km_X0_hasOf kk_X0_91 F.1 ⟨by decide, rfl⟩ rfl ⟨rfl, by decide⟩ rfl (Nat.le_of_ble_eq_true rfl) (Nat.zero_add _) (Nat.zero_add _) rfl ?_
    refine g_has1 F ?_
    refine aw_re (S' := [.int (hs1 N)]) rfl ?_
    refine aw_aload_n (npc := 20) rfl dX0_isPeace_19 rfl ?_
    refine aw_get (npc := 23) dX0_isPeace_20 rfl kf_X0_18 F.1 rfl ?_
    refine aw_iconst (npc := 24) (v := 1) (by decide) dX0_isPeace_23 rfl ?_
    refine aw_iald (npc := 25) (x := N 21) (j := 1) dX0_isPeace_24 rfl F.2.2.2.1 ⟨by decide, by decide⟩ (tl_at (by omega)) ?_
    refine aw_icmp_lt (npc := 28) (tgt := 32) dX0_isPeace_25 rfl (by decide) (fun hc2 => ?_) (fun hc2 => ?_)
    · refine aw_iconst (npc := 33) (v := 0) (by decide) dX0_isPeace_32 rfl ?_
      refine aw_zret rfl rfl dX0_isPeace_33 ?_
      exact k0 (fun h9 => h9.2 hc2)
    · refine aw_iconst (npc := 29) (v := 1) (by decide) dX0_isPeace_28 rfl ?_
      refine aw_goto (npc := 33) dX0_isPeace_29 (by decide) ?_
      refine aw_zret rfl rfl dX0_isPeace_33 ?_
      exact k1 ⟨hc1, hc2⟩
set_option maxHeartbeats 4000000 in
set_option maxRecDepth 100000 in
theorem g_duel {X : List Int32} {d rc rs n : Nat} {Q : am_Q} {b : Nat} {N : Nat → Int32} {tx : List Value} {lk mv : Nat → Int32} {h : am_H} (F : QR b N tx lk mv h) (k1 : duel N → Q (some (.int 1)) n h) (k0 : ¬ duel N → Q (some (.int 0)) n h) : AW X mX0_isDuel (d + 0) rc rs 0 [some (.ref b)] [] n h Q := by
  refine aw_aload_n (npc := 1) rfl dX0_isDuel_0 rfl ?_
  refine aw_get (npc := 4) dX0_isDuel_1 rfl kf_X0_21 F.1 rfl ?_
  refine aw_aload_n (npc := 5) rfl dX0_isDuel_4 rfl ?_
  refine aw_get (npc := 8) dX0_isDuel_5 rfl kf_X0_25 F.1 rfl ?_
  refine aw_icmp_lt (npc := 11) (tgt := 15) dX0_isDuel_8 rfl (by decide) (fun hc1 => ?_) (fun hc1 => ?_)
  · refine aw_iconst (npc := 16) (v := 0) (by decide) dX0_isDuel_15 rfl ?_
    refine aw_zret rfl rfl dX0_isDuel_16 ?_
    exact k0 (fun h9 => h9 hc1)
  · refine aw_iconst (npc := 12) (v := 1) (by decide) dX0_isDuel_11 rfl ?_
    refine aw_goto (npc := 16) dX0_isDuel_12 (by decide) ?_
    refine aw_zret rfl rfl dX0_isDuel_16 ?_
    exact k1 hc1
set_option maxHeartbeats 4000000 in
set_option maxRecDepth 100000 in
theorem g_snum {X : List Int32} {d rc rs n : Nat} {Q : am_Q} {b : Nat} {N : Nat → Int32} {tx : List Value} {lk mv : Nat → Int32} {h : am_H} (F : QR b N tx lk mv h) (hq : Q (some (.int (snum N))) n h) : AW X mX0_standsAsNumber (d + 0) rc rs 0 [some (.ref b), none, none] [] n h Q := by
  refine aw_iconst (npc := 1) (v := 0) (by decide) dX0_standsAsNumber_0 rfl ?_
  refine aw_istore_n (npc := 2) (L' := [some (.ref b), some (.int 0), none]) dX0_standsAsNumber_1 rfl (by decide) rfl rfl ?_
  refine aw_iconst (npc := 3) (v := 0) (by decide) dX0_standsAsNumber_2 rfl ?_
  refine aw_istore_n (npc := 4) (L' := [some (.ref b), some (.int 0), some (.int 0)]) dX0_standsAsNumber_3 rfl (by decide) rfl rfl ?_
  refine aw_iload_n (npc := 5) rfl dX0_standsAsNumber_4 rfl ?_
  refine aw_iconst (npc := 6) (v := 4) (by decide) dX0_standsAsNumber_5 rfl ?_
  refine aw_icmp_ge (npc := 9) (tgt := 27) dX0_standsAsNumber_6 rfl (by decide) (fun hc => absurd hc (by decide)) (fun _ => ?_)
  refine aw_iload_n (npc := 10) rfl dX0_standsAsNumber_9 rfl ?_
  refine aw_bipush (npc := 12) (v := 10) (by decide) dX0_standsAsNumber_10 rfl ?_
  refine aw_imulV (npc := 13) (v := 0) dX0_standsAsNumber_12 rfl (by decide) ?_
  refine aw_aload_n (npc := 14) rfl dX0_standsAsNumber_13 rfl ?_
  refine aw_get (npc := 17) dX0_standsAsNumber_14 rfl kf_X0_9 F.1 rfl ?_
  refine aw_iload_n (npc := 18) rfl dX0_standsAsNumber_17 rfl ?_
  refine aw_iald (npc := 19) (x := N 8) (j := 0) dX0_standsAsNumber_18 rfl F.2.1 ⟨by decide, by decide⟩ (tl_at (by omega)) ?_
  refine aw_iadd (npc := 20) dX0_standsAsNumber_19 rfl ?_
  refine aw_istore_n (npc := 21) (L' := [some (.ref b), some (.int (0 + (N 8))), some (.int 0)]) dX0_standsAsNumber_20 rfl (by decide) rfl rfl ?_
  refine aw_iinc (npc := 24) (v := 1) (L' := [some (.ref b), some (.int (0 + (N 8))), some (.int 1)]) dX0_standsAsNumber_21 rfl rfl (by decide) (by decide) rfl rfl ?_
  refine aw_goto (npc := 4) dX0_standsAsNumber_24 (by decide) ?_
  refine aw_iload_n (npc := 5) rfl dX0_standsAsNumber_4 rfl ?_
  refine aw_iconst (npc := 6) (v := 4) (by decide) dX0_standsAsNumber_5 rfl ?_
  refine aw_icmp_ge (npc := 9) (tgt := 27) dX0_standsAsNumber_6 rfl (by decide) (fun hc => absurd hc (by decide)) (fun _ => ?_)
  refine aw_iload_n (npc := 10) rfl dX0_standsAsNumber_9 rfl ?_
  refine aw_bipush (npc := 12) (v := 10) (by decide) dX0_standsAsNumber_10 rfl ?_
  refine aw_imul (npc := 13) dX0_standsAsNumber_12 rfl ?_
  refine aw_aload_n (npc := 14) rfl dX0_standsAsNumber_13 rfl ?_
  refine aw_get (npc := 17) dX0_standsAsNumber_14 rfl kf_X0_9 F.1 rfl ?_
  refine aw_iload_n (npc := 18) rfl dX0_standsAsNumber_17 rfl ?_
  refine aw_iald (npc := 19) (x := N 9) (j := 1) dX0_standsAsNumber_18 rfl F.2.1 ⟨by decide, by decide⟩ (tl_at (by omega)) ?_
  refine aw_iadd (npc := 20) dX0_standsAsNumber_19 rfl ?_
  refine aw_istore_n (npc := 21) (L' := [some (.ref b), some (.int (((0 + (N 8)) * 10) + (N 9))), some (.int 1)]) dX0_standsAsNumber_20 rfl (by decide) rfl rfl ?_
  refine aw_iinc (npc := 24) (v := 2) (L' := [some (.ref b), some (.int (((0 + (N 8)) * 10) + (N 9))), some (.int 2)]) dX0_standsAsNumber_21 rfl rfl (by decide) (by decide) rfl rfl ?_
  refine aw_goto (npc := 4) dX0_standsAsNumber_24 (by decide) ?_
  refine aw_iload_n (npc := 5) rfl dX0_standsAsNumber_4 rfl ?_
  refine aw_iconst (npc := 6) (v := 4) (by decide) dX0_standsAsNumber_5 rfl ?_
  refine aw_icmp_ge (npc := 9) (tgt := 27) dX0_standsAsNumber_6 rfl (by decide) (fun hc => absurd hc (by decide)) (fun _ => ?_)
  refine aw_iload_n (npc := 10) rfl dX0_standsAsNumber_9 rfl ?_
  refine aw_bipush (npc := 12) (v := 10) (by decide) dX0_standsAsNumber_10 rfl ?_
  refine aw_imul (npc := 13) dX0_standsAsNumber_12 rfl ?_
  refine aw_aload_n (npc := 14) rfl dX0_standsAsNumber_13 rfl ?_
  refine aw_get (npc := 17) dX0_standsAsNumber_14 rfl kf_X0_9 F.1 rfl ?_
  refine aw_iload_n (npc := 18) rfl dX0_standsAsNumber_17 rfl ?_
  refine aw_iald (npc := 19) (x := N 10) (j := 2) dX0_standsAsNumber_18 rfl F.2.1 ⟨by decide, by decide⟩ (tl_at (by omega)) ?_
  refine aw_iadd (npc := 20) dX0_standsAsNumber_19 rfl ?_
  refine aw_istore_n (npc := 21) (L' := [some (.ref b), some (.int (((((0 + (N 8)) * 10) + (N 9)) * 10) + (N 10))), some (.int 2)]) dX0_standsAsNumber_20 rfl (by decide) rfl rfl ?_
  refine aw_iinc (npc := 24) (v := 3) (L' := [some (.ref b), some (.int (((((0 + (N 8)) * 10) + (N 9)) * 10) + (N 10))), some (.int 3)]) dX0_standsAsNumber_21 rfl rfl (by decide) (by decide) rfl rfl ?_
  refine aw_goto (npc := 4) dX0_standsAsNumber_24 (by decide) ?_
  refine aw_iload_n (npc := 5) rfl dX0_standsAsNumber_4 rfl ?_
  refine aw_iconst (npc := 6) (v := 4) (by decide) dX0_standsAsNumber_5 rfl ?_
  refine aw_icmp_ge (npc := 9) (tgt := 27) dX0_standsAsNumber_6 rfl (by decide) (fun hc => absurd hc (by decide)) (fun _ => ?_)
  refine aw_iload_n (npc := 10) rfl dX0_standsAsNumber_9 rfl ?_
  refine aw_bipush (npc := 12) (v := 10) (by decide) dX0_standsAsNumber_10 rfl ?_
  refine aw_imul (npc := 13) dX0_standsAsNumber_12 rfl ?_
  refine aw_aload_n (npc := 14) rfl dX0_standsAsNumber_13 rfl ?_
  refine aw_get (npc := 17) dX0_standsAsNumber_14 rfl kf_X0_9 F.1 rfl ?_
  refine aw_iload_n (npc := 18) rfl dX0_standsAsNumber_17 rfl ?_
  refine aw_iald (npc := 19) (x := N 11) (j := 3) dX0_standsAsNumber_18 rfl F.2.1 ⟨by decide, by decide⟩ (tl_at (by omega)) ?_
  refine aw_iadd (npc := 20) dX0_standsAsNumber_19 rfl ?_
  refine aw_istore_n (npc := 21) (L' := [some (.ref b), some (.int (((((((0 + (N 8)) * 10) + (N 9)) * 10) + (N 10)) * 10) + (N 11))), some (.int 3)]) dX0_standsAsNumber_20 rfl (by decide) rfl rfl ?_
  refine aw_iinc (npc := 24) (v := 4) (L' := [some (.ref b), some (.int (((((((0 + (N 8)) * 10) + (N 9)) * 10) + (N 10)) * 10) + (N 11))), some (.int 4)]) dX0_standsAsNumber_21 rfl rfl (by decide) (by decide) rfl rfl ?_
  refine aw_goto (npc := 4) dX0_standsAsNumber_24 (by decide) ?_
  refine aw_iload_n (npc := 5) rfl dX0_standsAsNumber_4 rfl ?_
  refine aw_iconst (npc := 6) (v := 4) (by decide) dX0_standsAsNumber_5 rfl ?_
  refine aw_icmp_ge (npc := 9) (tgt := 27) dX0_standsAsNumber_6 rfl (by decide) (fun _ => ?_) (fun hc => absurd (by decide) hc)
  refine aw_iload_n (npc := 28) rfl dX0_standsAsNumber_27 rfl ?_
  refine aw_iret rfl dX0_standsAsNumber_28 ?_
  exact hq
set_option maxHeartbeats 4000000 in
set_option maxRecDepth 100000 in
theorem g_addFriend {X : List Int32} {d rc rs n : Nat} {Q : am_Q} {b : Nat} {N : Nat → Int32} {tx : List Value} {lk mv : Nat → Int32} {h : am_H} {f : Nat} {k s p : Int32} (F : QR b N tx lk mv h) (hF : N 1 = nI f) (hf : f < 8) (hq : ∀ h9, QR b (addN N f k s p) tx lk mv h9 → am_fb b (b + 12) h9 h → Q none n h9) : AW X mX0_addFriend (d + 0) rc rs 0 [some (.ref b), some (.int k), some (.int s), some (.int p)] [] n h Q := by
  refine aw_aload_n (npc := 1) rfl dX0_addFriend_0 rfl ?_
  refine aw_get (npc := 4) dX0_addFriend_1 rfl kf_X0_40 F.1 rfl ?_
  refine aw_top (y := nI f) (hF) ?_
  refine aw_bipush (npc := 6) (v := 8) (by decide) dX0_addFriend_4 rfl ?_
  refine aw_icmp_lt (npc := 9) (tgt := 10) dX0_addFriend_6 rfl (by decide) (fun _ => ?_) (fun hc => absurd (nI_lt (a := f) (b := 8) (by omega) (by omega)) hc)
  refine aw_aload_n (npc := 11) rfl dX0_addFriend_10 rfl ?_
  refine aw_get (npc := 14) dX0_addFriend_11 rfl kf_X0_43 F.1 rfl ?_
  refine aw_aload_n (npc := 15) rfl dX0_addFriend_14 rfl ?_
  refine aw_get (npc := 18) dX0_addFriend_15 rfl kf_X0_40 F.1 rfl ?_
  refine aw_top (y := nI f) (hF) ?_
  refine aw_iload_n (npc := 19) rfl dX0_addFriend_18 rfl ?_
  refine aw_iast (npc := 20) (j := f) dX0_addFriend_19 rfl F.2.2.2.2.1 (am_ix_nI (by omega)) (by rw [tl_len]; omega) rfl ?_
  have F2 := qr_kind (j := f) (v := k) F (by omega)
  refine aw_aload_n (npc := 21) rfl dX0_addFriend_20 rfl ?_
  refine aw_get (npc := 24) dX0_addFriend_21 rfl kf_X0_46 F2.1 rfl ?_
  refine aw_aload_n (npc := 25) rfl dX0_addFriend_24 rfl ?_
  refine aw_get (npc := 28) dX0_addFriend_25 rfl kf_X0_40 F2.1 rfl ?_
  refine aw_top (y := N 1) ((pk_un (by omega))) ?_
  refine aw_top (y := nI f) (hF) ?_
  refine aw_iload_n (npc := 29) rfl dX0_addFriend_28 rfl ?_
  refine aw_iast (npc := 30) (j := f) dX0_addFriend_29 rfl F2.2.2.2.2.2.1 (am_ix_nI (by omega)) (by rw [tl_len]; omega) rfl ?_
  have F3 := qr_side (j := f) (v := s) F2 (by omega)
  refine aw_aload_n (npc := 31) rfl dX0_addFriend_30 rfl ?_
  refine aw_get (npc := 34) dX0_addFriend_31 rfl kf_X0_49 F3.1 rfl ?_
  refine aw_aload_n (npc := 35) rfl dX0_addFriend_34 rfl ?_
  refine aw_get (npc := 38) dX0_addFriend_35 rfl kf_X0_40 F3.1 rfl ?_
  refine aw_top (y := N 1) (((pk_un (by omega))).trans (pk_un (by omega))) ?_
  refine aw_top (y := nI f) (hF) ?_
  refine aw_iload_n (npc := 39) rfl dX0_addFriend_38 rfl ?_
  refine aw_iast (npc := 40) (j := f) dX0_addFriend_39 rfl F3.2.2.2.2.2.2.1 (am_ix_nI (by omega)) (by rw [tl_len]; omega) rfl ?_
  have F4 := qr_pride (j := f) (v := p) F3 (by omega)
  refine aw_aload_n (npc := 41) rfl dX0_addFriend_40 rfl ?_
  refine aw_get (npc := 44) dX0_addFriend_41 rfl kf_X0_52 F4.1 rfl ?_
  refine aw_aload_n (npc := 45) rfl dX0_addFriend_44 rfl ?_
  refine aw_get (npc := 48) dX0_addFriend_45 rfl kf_X0_40 F4.1 rfl ?_
  refine aw_top (y := N 1) ((((pk_un (by omega))).trans (pk_un (by omega))).trans (pk_un (by omega))) ?_
  refine aw_top (y := nI f) (hF) ?_
  refine aw_iconst (npc := 49) (v := 0) (by decide) dX0_addFriend_48 rfl ?_
  refine aw_iast (npc := 50) (j := f) dX0_addFriend_49 rfl F4.2.2.2.2.2.2.2.1 (am_ix_nI (by omega)) (by rw [tl_len]; omega) rfl ?_
  have F5 := qr_sent (j := f) (v := 0) F4 (by omega)
  refine aw_aload_n (npc := 51) rfl dX0_addFriend_50 rfl ?_
  refine aw_get (npc := 54) dX0_addFriend_51 rfl kf_X0_55 F5.1 rfl ?_
  refine aw_aload_n (npc := 55) rfl dX0_addFriend_54 rfl ?_
  refine aw_get (npc := 58) dX0_addFriend_55 rfl kf_X0_40 F5.1 rfl ?_
  refine aw_top (y := N 1) (((((pk_un (by omega))).trans (pk_un (by omega))).trans (pk_un (by omega))).trans (pk_un (by omega))) ?_
  refine aw_top (y := nI f) (hF) ?_
  refine aw_iconst (npc := 59) (v := 0) (by decide) dX0_addFriend_58 rfl ?_
  refine aw_iast (npc := 60) (j := f) dX0_addFriend_59 rfl F5.2.2.2.2.2.2.2.2.1 (am_ix_nI (by omega)) (by rw [tl_len]; omega) rfl ?_
  have F6 := qr_yield (j := f) (v := 0) F5 (by omega)
  refine aw_aload_n (npc := 61) rfl dX0_addFriend_60 rfl ?_
  refine aw_dup (npc := 62) rfl dX0_addFriend_61 rfl ?_
  refine aw_get (npc := 65) dX0_addFriend_62 rfl kf_X0_40 F6.1 rfl ?_
  refine aw_top (y := N 1) ((((((pk_un (by omega))).trans (pk_un (by omega))).trans (pk_un (by omega))).trans (pk_un (by omega))).trans (pk_un (by omega))) ?_
  refine aw_top (y := nI f) (hF) ?_
  refine aw_iconst (npc := 66) (v := 1) (by decide) dX0_addFriend_65 rfl ?_
  refine aw_iaddV (npc := 67) (v := nI (f + 1)) dX0_addFriend_66 rfl (nI_1 f) ?_
  refine aw_put (npc := 70) dX0_addFriend_67 rfl kf_X0_40 F6.1 (Nat.le_of_ble_eq_true rfl) (am_ok_int _) rfl ?_
  have F7 := qr_friends (v := nI (f + 1)) F6
  refine aw_vret rfl dX0_addFriend_70 ?_
  exact hq _ F7 (am_fbU (by omega) (am_fbU (by omega) (am_fbU (by omega) (am_fbU (by omega) (am_fbU (by omega) (am_fbU (by omega) am_fb0))))))
def joinC (s a b : Int32) : Int32 := if s = 38 then (if a = 0 then 0 else if b = 0 then 0 else 1) else if s = 42 then a * b else if s = 43 then a + b else if s = 45 then a - b else if s = 47 then (if b = 0 then 0 else a / b) else if s = 60 then (if b ≤ a then 0 else 1) else if s = 61 then (if a = b then 1 else 0) else if s = 62 then (if a ≤ b then 0 else 1) else if s = 124 then (if a = 0 then (if b = 0 then 0 else 1) else 1) else 0
set_option maxHeartbeats 4000000 in
set_option maxRecDepth 100000 in
theorem g_join {X : List Int32} {d rc rs n : Nat} {Q : am_Q} {h : am_H} {s a b : Int32} (hq : Q (some (.int (joinC s a b))) n h) : AW X mX5_join d rc rs 0 [some (.int s), some (.int a), some (.int b)] [] n h Q := by
  refine aw_iload_n (npc := 1) rfl dX5_join_0 rfl ?_
  by_cases hk1 : s = 38
  · subst hk1
    refine aw_lookup (npc := 141) (off := 140) dX5_join_1 rfl (by decide) (by decide) ?_
    refine aw_iload_n (npc := 142) rfl dX5_join_141 rfl ?_
    refine aw_if_eq (npc := 145) (tgt := 153) dX5_join_142 rfl (by decide) (fun hc2 => ?_) (fun hc2 => ?_)
    · refine aw_iconst (npc := 154) (v := 0) (by decide) dX5_join_153 rfl ?_
      refine aw_iret rfl dX5_join_154 ?_
      exact (show joinC 38 a b = 0 by simp [joinC, hc2]) ▸ hq
    · refine aw_iload_n (npc := 146) rfl dX5_join_145 rfl ?_
      refine aw_if_eq (npc := 149) (tgt := 153) dX5_join_146 rfl (by decide) (fun hc3 => ?_) (fun hc3 => ?_)
      · refine aw_iconst (npc := 154) (v := 0) (by decide) dX5_join_153 rfl ?_
        refine aw_iret rfl dX5_join_154 ?_
        exact (show joinC 38 a b = 0 by simp [joinC, hc2, hc3]) ▸ hq
      · refine aw_iconst (npc := 150) (v := 1) (by decide) dX5_join_149 rfl ?_
        refine aw_goto (npc := 154) dX5_join_150 (by decide) ?_
        refine aw_iret rfl dX5_join_154 ?_
        exact (show joinC 38 a b = 1 by simp [joinC, hc2, hc3]) ▸ hq
  by_cases hk4 : s = 42
  · subst hk4
    refine aw_lookup (npc := 92) (off := 91) dX5_join_1 rfl (by decide) (by decide) ?_
    refine aw_iload_n (npc := 93) rfl dX5_join_92 rfl ?_
    refine aw_iload_n (npc := 94) rfl dX5_join_93 rfl ?_
    refine aw_imul (npc := 95) dX5_join_94 rfl ?_
    refine aw_iret rfl dX5_join_95 ?_
    exact (show joinC 42 a b = (a * b) by simp [joinC]) ▸ hq
  by_cases hk5 : s = 43
  · subst hk5
    refine aw_lookup (npc := 84) (off := 83) dX5_join_1 rfl (by decide) (by decide) ?_
    refine aw_iload_n (npc := 85) rfl dX5_join_84 rfl ?_
    refine aw_iload_n (npc := 86) rfl dX5_join_85 rfl ?_
    refine aw_iadd (npc := 87) dX5_join_86 rfl ?_
    refine aw_iret rfl dX5_join_87 ?_
    exact (show joinC 43 a b = (a + b) by simp [joinC]) ▸ hq
  by_cases hk6 : s = 45
  · subst hk6
    refine aw_lookup (npc := 88) (off := 87) dX5_join_1 rfl (by decide) (by decide) ?_
    refine aw_iload_n (npc := 89) rfl dX5_join_88 rfl ?_
    refine aw_iload_n (npc := 90) rfl dX5_join_89 rfl ?_
    refine aw_isub (npc := 91) dX5_join_90 rfl ?_
    refine aw_iret rfl dX5_join_91 ?_
    exact (show joinC 45 a b = (a - b) by simp [joinC]) ▸ hq
  by_cases hk7 : s = 47
  · subst hk7
    refine aw_lookup (npc := 96) (off := 95) dX5_join_1 rfl (by decide) (by decide) ?_
    refine aw_iload_n (npc := 97) rfl dX5_join_96 rfl ?_
    refine aw_if_ne (npc := 100) (tgt := 104) dX5_join_97 rfl (by decide) (fun hc8 => ?_) (fun hc8 => ?_)
    · refine aw_iload_n (npc := 105) rfl dX5_join_104 rfl ?_
      refine aw_iload_n (npc := 106) rfl dX5_join_105 rfl ?_
      refine aw_idiv (npc := 107) hc8 dX5_join_106 rfl ?_
      refine aw_iret rfl dX5_join_107 ?_
      exact (show joinC 47 a b = (a / b) by simp [joinC, hc8]) ▸ hq
    · refine aw_iconst (npc := 101) (v := 0) (by decide) dX5_join_100 rfl ?_
      refine aw_goto (npc := 107) dX5_join_101 (by decide) ?_
      refine aw_iret rfl dX5_join_107 ?_
      exact (show joinC 47 a b = 0 by simp [joinC, hc8]) ▸ hq
  by_cases hk9 : s = 60
  · subst hk9
    refine aw_lookup (npc := 108) (off := 107) dX5_join_1 rfl (by decide) (by decide) ?_
    refine aw_iload_n (npc := 109) rfl dX5_join_108 rfl ?_
    refine aw_iload_n (npc := 110) rfl dX5_join_109 rfl ?_
    refine aw_icmp_ge (npc := 113) (tgt := 117) dX5_join_110 rfl (by decide) (fun hc10 => ?_) (fun hc10 => ?_)
    · refine aw_iconst (npc := 118) (v := 0) (by decide) dX5_join_117 rfl ?_
      refine aw_iret rfl dX5_join_118 ?_
      exact (show joinC 60 a b = 0 by simp [joinC, hc10]) ▸ hq
    · refine aw_iconst (npc := 114) (v := 1) (by decide) dX5_join_113 rfl ?_
      refine aw_goto (npc := 118) dX5_join_114 (by decide) ?_
      refine aw_iret rfl dX5_join_118 ?_
      exact (show joinC 60 a b = 1 by simp [joinC, hc10]) ▸ hq
  by_cases hk11 : s = 61
  · subst hk11
    refine aw_lookup (npc := 119) (off := 118) dX5_join_1 rfl (by decide) (by decide) ?_
    refine aw_iload_n (npc := 120) rfl dX5_join_119 rfl ?_
    refine aw_iload_n (npc := 121) rfl dX5_join_120 rfl ?_
    refine aw_icmp_ne (npc := 124) (tgt := 128) dX5_join_121 rfl (by decide) (fun hc12 => ?_) (fun hc12 => ?_)
    · refine aw_iconst (npc := 129) (v := 0) (by decide) dX5_join_128 rfl ?_
      refine aw_iret rfl dX5_join_129 ?_
      exact (show joinC 61 a b = 0 by simp [joinC, hc12]) ▸ hq
    · refine aw_iconst (npc := 125) (v := 1) (by decide) dX5_join_124 rfl ?_
      refine aw_goto (npc := 129) dX5_join_125 (by decide) ?_
      refine aw_iret rfl dX5_join_129 ?_
      exact (show joinC 61 a b = 1 by simp [joinC, hc12]) ▸ hq
  by_cases hk13 : s = 62
  · subst hk13
    refine aw_lookup (npc := 130) (off := 129) dX5_join_1 rfl (by decide) (by decide) ?_
    refine aw_iload_n (npc := 131) rfl dX5_join_130 rfl ?_
    refine aw_iload_n (npc := 132) rfl dX5_join_131 rfl ?_
    refine aw_icmp_le (npc := 135) (tgt := 139) dX5_join_132 rfl (by decide) (fun hc14 => ?_) (fun hc14 => ?_)
    · refine aw_iconst (npc := 140) (v := 0) (by decide) dX5_join_139 rfl ?_
      refine aw_iret rfl dX5_join_140 ?_
      exact (show joinC 62 a b = 0 by simp [joinC, hc14]) ▸ hq
    · refine aw_iconst (npc := 136) (v := 1) (by decide) dX5_join_135 rfl ?_
      refine aw_goto (npc := 140) dX5_join_136 (by decide) ?_
      refine aw_iret rfl dX5_join_140 ?_
      exact (show joinC 62 a b = 1 by simp [joinC, hc14]) ▸ hq
  by_cases hk15 : s = 124
  · subst hk15
    refine aw_lookup (npc := 155) (off := 154) dX5_join_1 rfl (by decide) (by decide) ?_
    refine aw_iload_n (npc := 156) rfl dX5_join_155 rfl ?_
    refine aw_if_ne (npc := 159) (tgt := 163) dX5_join_156 rfl (by decide) (fun hc16 => ?_) (fun hc16 => ?_)
    · refine aw_iconst (npc := 164) (v := 1) (by decide) dX5_join_163 rfl ?_
      refine aw_goto (npc := 168) dX5_join_164 (by decide) ?_
      refine aw_iret rfl dX5_join_168 ?_
      exact (show joinC 124 a b = 1 by simp [joinC, hc16]) ▸ hq
    · refine aw_iload_n (npc := 160) rfl dX5_join_159 rfl ?_
      refine aw_if_eq (npc := 163) (tgt := 167) dX5_join_160 rfl (by decide) (fun hc17 => ?_) (fun hc17 => ?_)
      · refine aw_iconst (npc := 168) (v := 0) (by decide) dX5_join_167 rfl ?_
        refine aw_iret rfl dX5_join_168 ?_
        exact (show joinC 124 a b = 0 by simp [joinC, hc16, hc17]) ▸ hq
      · refine aw_iconst (npc := 164) (v := 1) (by decide) dX5_join_163 rfl ?_
        refine aw_goto (npc := 168) dX5_join_164 (by decide) ?_
        refine aw_iret rfl dX5_join_168 ?_
        exact (show joinC 124 a b = 1 by simp [joinC, hc16, hc17]) ▸ hq
  refine aw_lookup (npc := 169) (off := 168) dX5_join_1 rfl ((lv_osw (k := 38) hk1 rfl).trans ((lv_osw (k := 42) hk4 rfl).trans ((lv_osw (k := 43) hk5 rfl).trans ((lv_osw (k := 45) hk6 rfl).trans ((lv_osw (k := 47) hk7 rfl).trans ((lv_osw (k := 60) hk9 rfl).trans ((lv_osw (k := 61) hk11 rfl).trans ((lv_osw (k := 62) hk13 rfl).trans ((lv_osw (k := 124) hk15 rfl).trans (rfl)))))))))) (by decide) ?_
  refine aw_iconst (npc := 170) (v := 0) (by decide) dX5_join_169 rfl ?_
  refine aw_iret rfl dX5_join_170 ?_
  exact (show joinC s a b = 0 by simp [joinC, hk1, hk4, hk5, hk6, hk7, hk9, hk11, hk13, hk15]) ▸ hq
def wcS (f1 f2 f3 : Int32) (Ls : Nat) (p : (Nat → Int32) × Nat) (c : Int32) : (Nat → Int32) × Nat :=
  if c < -3 then (if c = -33 then (if p.2 < 1 then p else (upd p.1 (p.2 - 1) (if p.1 (p.2 - 1) = 0 then 1 else 0), p.2)) else if p.2 < 2 then p else (upd p.1 (p.2 - 1 - 1) (joinC (-c) (p.1 (p.2 - 1 - 1)) (p.1 (p.2 - 1))), p.2 - 1))
  else if Ls ≤ p.2 then p else (upd p.1 p.2 (if c < 0 then (if c = -1 then f1 else if c = -2 then f2 else f3) else c), p.2 + 1)
def wcM (f1 f2 f3 : Int32) (Ls : Nat) (cf : Nat → Int32) : Nat → Nat → (Nat → Int32) × Nat → (Nat → Int32) × Nat
  | 0, _, p => p
  | m + 1, i, p => wcM f1 f2 f3 Ls cf m (i + 1) (wcS f1 f2 f3 Ls p (cf i))
set_option maxHeartbeats 4000000 in
set_option maxRecDepth 100000 in
theorem g_workL {X : List Int32} {d rc rs n : Nat} {Q : am_Q} {h : am_H} {a0 a1 a2 lc Ls : Nat} {ky op f1 f2 f3 : Int32} {cf : Nat → Int32} (h02 : a0 ≠ a2) (h12 : a1 ≠ a2) (hl1 : lc < 1000) (hl2 : Ls < 1000) (hl3 : 0 < Ls) (t0 : h a0 = some (.inr (5, [.int ky, .int op, .ref a1, .ref a2]))) (t1 : h a1 = some (.inl (0, tl lc cf))) : ∀ (m i : Nat), i + m = lc → ∀ (sf : Nat → Int32) (top : Nat) (v6 : Option Value), top ≤ Ls → Q (some (.int ((wcM f1 f2 f3 Ls cf m i (sf, top)).1 0))) n (am_up h a2 (.inl (0, tl Ls (wcM f1 f2 f3 Ls cf m i (sf, top)).1))) → AW X mX5_workOut (d + 2) rc rs 6 [some (.ref a0), some (.int f1), some (.int f2), some (.int f3), some (.int (nI top)), some (.int (nI i)), v6] [] n (am_up h a2 (.inl (0, tl Ls sf))) Q := by
  intro m
  induction m with
  | zero =>
    intro i hi sf top v6 htop hq
    obtain rfl : i = lc := by omega
    refine aw_iload (npc := 8) rfl dX5_workOut_6 rfl ?_
    refine aw_aload_n (npc := 9) rfl dX5_workOut_8 rfl ?_
    refine aw_get (npc := 12) dX5_workOut_9 rfl kf_X5_16 (am_ne h02 t0) rfl ?_
    refine aw_alen (npc := 13) (v := nI i) dX5_workOut_12 rfl (am_ne h12 t1) (by rw [tl_len]; rfl) ?_
    refine aw_icmp_ge (npc := 16) (tgt := 175) dX5_workOut_13 rfl (by decide) (fun _ => ?_) (fun hc => absurd (nI_le (Nat.le_refl _) (by omega)) hc)
    refine aw_aload_n (npc := 176) rfl dX5_workOut_175 rfl ?_
    refine aw_get (npc := 179) dX5_workOut_176 rfl kf_X5_26 (am_ne h02 t0) rfl ?_
    refine aw_iconst (npc := 180) (v := 0) (by decide) dX5_workOut_179 rfl ?_
    refine aw_iald (npc := 181) (x := sf 0) (j := 0) dX5_workOut_180 rfl am_eq ⟨by decide, by decide⟩ (tl_at (by omega)) ?_
    refine aw_iret rfl dX5_workOut_181 ?_
    exact hq
  | succ m ih =>
    intro i hi sf top v6 htop hq
    refine aw_iload (npc := 8) rfl dX5_workOut_6 rfl ?_
    refine aw_aload_n (npc := 9) rfl dX5_workOut_8 rfl ?_
    refine aw_get (npc := 12) dX5_workOut_9 rfl kf_X5_16 (am_ne h02 t0) rfl ?_
    refine aw_alen (npc := 13) (v := nI lc) dX5_workOut_12 rfl (am_ne h12 t1) (by rw [tl_len]; rfl) ?_
    refine aw_icmp_ge (npc := 16) (tgt := 175) dX5_workOut_13 rfl (by decide) (fun hc => absurd hc (nI_ge (a := i) (b := lc) (by omega) (by omega))) (fun _ => ?_)
    refine aw_aload_n (npc := 17) rfl dX5_workOut_16 rfl ?_
    refine aw_get (npc := 20) dX5_workOut_17 rfl kf_X5_16 (am_ne h02 t0) rfl ?_
    refine aw_iload (npc := 22) rfl dX5_workOut_20 rfl ?_
    refine aw_iald (npc := 23) (x := cf i) (j := i) dX5_workOut_22 rfl (am_ne h12 t1) (am_ix_nI (by omega)) (tl_at (by omega)) ?_
    refine aw_istore (npc := 25) (L' := [some (.ref a0), some (.int f1), some (.int f2), some (.int f3), some (.int (nI top)), some (.int (nI i)), some (.int (cf i))]) dX5_workOut_23 rfl (by decide) rfl rfl ?_
    refine aw_iload (npc := 27) rfl dX5_workOut_25 rfl ?_
    refine aw_bipush (npc := 29) (v := -3) (by decide) dX5_workOut_27 rfl ?_
    refine aw_icmp_lt (npc := 32) (tgt := 87) dX5_workOut_29 rfl (by decide) (fun hc2 => ?_) (fun hc2 => ?_)
    · refine aw_iload (npc := 89) rfl dX5_workOut_87 rfl ?_
      refine aw_bipush (npc := 91) (v := -33) (by decide) dX5_workOut_89 rfl ?_
      refine aw_icmp_ne (npc := 94) (tgt := 129) dX5_workOut_91 rfl (by decide) (fun hc3 => ?_) (fun hc3 => ?_)
      · refine aw_iload (npc := 131) rfl dX5_workOut_129 rfl ?_
        refine aw_iconst (npc := 132) (v := 2) (by decide) dX5_workOut_131 rfl ?_
        refine aw_icmp_lt (npc := 135) (tgt := 169) dX5_workOut_132 rfl (by decide) (fun hc4 => ?_) (fun hc4 => ?_)
        · have hc4N := (nI_ltI (a := top) (b := 2) (by omega) (by omega)).mp hc4
          refine aw_iinc (npc := 172) (v := nI (i + 1)) (L' := [some (.ref a0), some (.int f1), some (.int f2), some (.int f3), some (.int (nI top)), some (.int (nI (i + 1))), some (.int (cf i))]) dX5_workOut_169 rfl rfl (nI_1 _) (by decide) rfl rfl ?_
          refine aw_goto (npc := 6) dX5_workOut_172 (by decide) ?_
          refine ih (i + 1) (by omega) sf top _ (by omega) ?_
          have e9 : wcS f1 f2 f3 Ls (sf, top) (cf i) = (sf, top) := by simp [wcS, hc2, hc3, hc4, hc4N]
          exact (congrArg (wcM f1 f2 f3 Ls cf m (i + 1)) e9) ▸ hq
        · have hc4N : ¬ top < 2 := fun z => hc4 ((nI_ltI (a := top) (b := 2) (by omega) (by omega)).mpr z)
          refine aw_iinc (npc := 138) (v := nI (top - 1)) (L' := [some (.ref a0), some (.int f1), some (.int f2), some (.int f3), some (.int (nI (top - 1))), some (.int (nI i)), some (.int (cf i))]) dX5_workOut_135 rfl rfl (sb_m1 (by omega)) (by decide) rfl rfl ?_
          refine aw_aload_n (npc := 139) rfl dX5_workOut_138 rfl ?_
          refine aw_get (npc := 142) dX5_workOut_139 rfl kf_X5_26 (am_ne h02 t0) rfl ?_
          refine aw_iload (npc := 144) rfl dX5_workOut_142 rfl ?_
          refine aw_iconst (npc := 145) (v := 1) (by decide) dX5_workOut_144 rfl ?_
          refine aw_isubV (npc := 146) (v := nI ((top - 1) - 1)) dX5_workOut_145 rfl (pk_sub (b := 1) (by omega)) ?_
          refine aw_iload (npc := 148) rfl dX5_workOut_146 rfl ?_
          refine aw_ineg (npc := 149) dX5_workOut_148 rfl ?_
          refine aw_aload_n (npc := 150) rfl dX5_workOut_149 rfl ?_
          refine aw_get (npc := 153) dX5_workOut_150 rfl kf_X5_26 (am_ne h02 t0) rfl ?_
          refine aw_iload (npc := 155) rfl dX5_workOut_153 rfl ?_
          refine aw_iconst (npc := 156) (v := 1) (by decide) dX5_workOut_155 rfl ?_
          refine aw_isubV (npc := 157) (v := nI ((top - 1) - 1)) dX5_workOut_156 rfl (pk_sub (b := 1) (by omega)) ?_
          refine aw_iald (npc := 158) (x := sf ((top - 1) - 1)) (j := ((top - 1) - 1)) dX5_workOut_157 rfl am_eq (am_ix_nI (by omega)) (tl_at (by omega)) ?_
          refine aw_aload_n (npc := 159) rfl dX5_workOut_158 rfl ?_
          refine aw_get (npc := 162) dX5_workOut_159 rfl kf_X5_26 (am_ne h02 t0) rfl ?_
          refine aw_iload (npc := 164) rfl dX5_workOut_162 rfl ?_
          refine aw_iald (npc := 165) (x := sf (top - 1)) (j := (top - 1)) dX5_workOut_164 rfl am_eq (am_ix_nI (by omega)) (tl_at (by omega)) ?_
          refine aw_callS (npc := 168) (N := mX5_join) (mc := 0) (ms := 0) (A := [.int (-(cf i)), .int (sf ((top - 1) - 1)), .int (sf (top - 1))]) (S := [.int (nI ((top - 1) - 1)), .ref a2]) (L0 := [some (.int (-(cf i))), some (.int (sf ((top - 1) - 1))), some (.int (sf (top - 1)))]) dX5_workOut_165 rfl km_X5_join kk_X5_29 rfl ⟨rfl, by decide⟩ rfl (Nat.le_of_ble_eq_true rfl) (Nat.zero_add _) (Nat.zero_add _) rfl ?_
          refine g_join ?_
          refine aw_re (S' := [.int (joinC (-(cf i)) (sf ((top - 1) - 1)) (sf (top - 1))), .int (nI ((top - 1) - 1)), .ref a2]) rfl ?_
          refine aw_iast (npc := 169) (j := ((top - 1) - 1)) dX5_workOut_168 rfl am_eq (am_ix_nI (by omega)) (by rw [tl_len]; omega) (show _ = am_up h a2 (.inl (0, tl Ls (upd sf ((top - 1) - 1) (joinC (-(cf i)) (sf ((top - 1) - 1)) (sf (top - 1)))))) from am_uu.trans (congrArg (fun l : List Int32 => am_up h a2 (.inl (0, l))) tl_set)) ?_
          refine aw_iinc (npc := 172) (v := nI (i + 1)) (L' := [some (.ref a0), some (.int f1), some (.int f2), some (.int f3), some (.int (nI (top - 1))), some (.int (nI (i + 1))), some (.int (cf i))]) dX5_workOut_169 rfl rfl (nI_1 _) (by decide) rfl rfl ?_
          refine aw_goto (npc := 6) dX5_workOut_172 (by decide) ?_
          refine ih (i + 1) (by omega) (upd sf ((top - 1) - 1) (joinC (-(cf i)) (sf ((top - 1) - 1)) (sf (top - 1)))) (top - 1) _ (by omega) ?_
          have e9 : wcS f1 f2 f3 Ls (sf, top) (cf i) = (upd sf ((top - 1) - 1) (joinC (-(cf i)) (sf ((top - 1) - 1)) (sf (top - 1))), (top - 1)) := by simp [wcS, hc2, hc3, hc4, hc4N]
          exact (congrArg (wcM f1 f2 f3 Ls cf m (i + 1)) e9) ▸ hq
      · refine aw_iload (npc := 96) rfl dX5_workOut_94 rfl ?_
        refine aw_iconst (npc := 97) (v := 1) (by decide) dX5_workOut_96 rfl ?_
        refine aw_icmp_lt (npc := 100) (tgt := 169) dX5_workOut_97 rfl (by decide) (fun hc5 => ?_) (fun hc5 => ?_)
        · have hc5N := (nI_ltI (a := top) (b := 1) (by omega) (by omega)).mp hc5
          refine aw_iinc (npc := 172) (v := nI (i + 1)) (L' := [some (.ref a0), some (.int f1), some (.int f2), some (.int f3), some (.int (nI top)), some (.int (nI (i + 1))), some (.int (cf i))]) dX5_workOut_169 rfl rfl (nI_1 _) (by decide) rfl rfl ?_
          refine aw_goto (npc := 6) dX5_workOut_172 (by decide) ?_
          refine ih (i + 1) (by omega) sf top _ (by omega) ?_
          have e9 : wcS f1 f2 f3 Ls (sf, top) (cf i) = (sf, top) := by simp [wcS, hc2, hc3, hc5, hc5N]
          exact (congrArg (wcM f1 f2 f3 Ls cf m (i + 1)) e9) ▸ hq
        · have hc5N : ¬ top < 1 := fun z => hc5 ((nI_ltI (a := top) (b := 1) (by omega) (by omega)).mpr z)
          refine aw_aload_n (npc := 101) rfl dX5_workOut_100 rfl ?_
          refine aw_get (npc := 104) dX5_workOut_101 rfl kf_X5_26 (am_ne h02 t0) rfl ?_
          refine aw_iload (npc := 106) rfl dX5_workOut_104 rfl ?_
          refine aw_iconst (npc := 107) (v := 1) (by decide) dX5_workOut_106 rfl ?_
          refine aw_isubV (npc := 108) (v := nI (top - 1)) dX5_workOut_107 rfl (pk_sub (b := 1) (by omega)) ?_
          refine aw_aload_n (npc := 109) rfl dX5_workOut_108 rfl ?_
          refine aw_get (npc := 112) dX5_workOut_109 rfl kf_X5_26 (am_ne h02 t0) rfl ?_
          refine aw_iload (npc := 114) rfl dX5_workOut_112 rfl ?_
          refine aw_iconst (npc := 115) (v := 1) (by decide) dX5_workOut_114 rfl ?_
          refine aw_isubV (npc := 116) (v := nI (top - 1)) dX5_workOut_115 rfl (pk_sub (b := 1) (by omega)) ?_
          refine aw_iald (npc := 117) (x := sf (top - 1)) (j := (top - 1)) dX5_workOut_116 rfl am_eq (am_ix_nI (by omega)) (tl_at (by omega)) ?_
          refine aw_if_ne (npc := 120) (tgt := 124) dX5_workOut_117 rfl (by decide) (fun hc6 => ?_) (fun hc6 => ?_)
          · refine aw_iconst (npc := 125) (v := 0) (by decide) dX5_workOut_124 rfl ?_
            refine aw_iast (npc := 126) (j := (top - 1)) dX5_workOut_125 rfl am_eq (am_ix_nI (by omega)) (by rw [tl_len]; omega) (show _ = am_up h a2 (.inl (0, tl Ls (upd sf (top - 1) 0))) from am_uu.trans (congrArg (fun l : List Int32 => am_up h a2 (.inl (0, l))) tl_set)) ?_
            refine aw_goto (npc := 169) dX5_workOut_126 (by decide) ?_
            refine aw_iinc (npc := 172) (v := nI (i + 1)) (L' := [some (.ref a0), some (.int f1), some (.int f2), some (.int f3), some (.int (nI top)), some (.int (nI (i + 1))), some (.int (cf i))]) dX5_workOut_169 rfl rfl (nI_1 _) (by decide) rfl rfl ?_
            refine aw_goto (npc := 6) dX5_workOut_172 (by decide) ?_
            refine ih (i + 1) (by omega) (upd sf (top - 1) 0) top _ (by omega) ?_
            have e9 : wcS f1 f2 f3 Ls (sf, top) (cf i) = (upd sf (top - 1) 0, top) := by simp [wcS, hc2, hc3, hc5, hc5N, hc6]
            exact (congrArg (wcM f1 f2 f3 Ls cf m (i + 1)) e9) ▸ hq
          · refine aw_iconst (npc := 121) (v := 1) (by decide) dX5_workOut_120 rfl ?_
            refine aw_goto (npc := 125) dX5_workOut_121 (by decide) ?_
            refine aw_iast (npc := 126) (j := (top - 1)) dX5_workOut_125 rfl am_eq (am_ix_nI (by omega)) (by rw [tl_len]; omega) (show _ = am_up h a2 (.inl (0, tl Ls (upd sf (top - 1) 1))) from am_uu.trans (congrArg (fun l : List Int32 => am_up h a2 (.inl (0, l))) tl_set)) ?_
            refine aw_goto (npc := 169) dX5_workOut_126 (by decide) ?_
            refine aw_iinc (npc := 172) (v := nI (i + 1)) (L' := [some (.ref a0), some (.int f1), some (.int f2), some (.int f3), some (.int (nI top)), some (.int (nI (i + 1))), some (.int (cf i))]) dX5_workOut_169 rfl rfl (nI_1 _) (by decide) rfl rfl ?_
            refine aw_goto (npc := 6) dX5_workOut_172 (by decide) ?_
            refine ih (i + 1) (by omega) (upd sf (top - 1) 1) top _ (by omega) ?_
            have e9 : wcS f1 f2 f3 Ls (sf, top) (cf i) = (upd sf (top - 1) 1, top) := by simp [wcS, hc2, hc3, hc5, hc5N, hc6]
            exact (congrArg (wcM f1 f2 f3 Ls cf m (i + 1)) e9) ▸ hq
    · refine aw_iload (npc := 34) rfl dX5_workOut_32 rfl ?_
      refine aw_aload_n (npc := 35) rfl dX5_workOut_34 rfl ?_
      refine aw_get (npc := 38) dX5_workOut_35 rfl kf_X5_26 (am_ne h02 t0) rfl ?_
      refine aw_alen (npc := 39) (v := nI Ls) dX5_workOut_38 rfl am_eq (by rw [tl_len]; rfl) ?_
      refine aw_icmp_ge (npc := 42) (tgt := 169) dX5_workOut_39 rfl (by decide) (fun hc7 => ?_) (fun hc7 => ?_)
      · have hc7N := (nI_leI (a := Ls) (b := top) (by omega) (by omega)).mp hc7
        refine aw_iinc (npc := 172) (v := nI (i + 1)) (L' := [some (.ref a0), some (.int f1), some (.int f2), some (.int f3), some (.int (nI top)), some (.int (nI (i + 1))), some (.int (cf i))]) dX5_workOut_169 rfl rfl (nI_1 _) (by decide) rfl rfl ?_
        refine aw_goto (npc := 6) dX5_workOut_172 (by decide) ?_
        refine ih (i + 1) (by omega) sf top _ (by omega) ?_
        have e9 : wcS f1 f2 f3 Ls (sf, top) (cf i) = (sf, top) := by simp [wcS, hc2, hc7, hc7N]
        exact (congrArg (wcM f1 f2 f3 Ls cf m (i + 1)) e9) ▸ hq
      · have hc7N : ¬ Ls ≤ top := fun z => hc7 ((nI_leI (a := Ls) (b := top) (by omega) (by omega)).mpr z)
        refine aw_aload_n (npc := 43) rfl dX5_workOut_42 rfl ?_
        refine aw_get (npc := 46) dX5_workOut_43 rfl kf_X5_26 (am_ne h02 t0) rfl ?_
        refine aw_iload (npc := 48) rfl dX5_workOut_46 rfl ?_
        refine aw_iload (npc := 50) rfl dX5_workOut_48 rfl ?_
        refine aw_if_lt (npc := 53) (tgt := 58) dX5_workOut_50 rfl (by decide) (fun hc8 => ?_) (fun hc8 => ?_)
        · refine aw_iload (npc := 60) rfl dX5_workOut_58 rfl ?_
          refine aw_iconst (npc := 61) (v := -1) (by decide) dX5_workOut_60 rfl ?_
          refine aw_icmp_ne (npc := 64) (tgt := 68) dX5_workOut_61 rfl (by decide) (fun hc9 => ?_) (fun hc9 => ?_)
          · refine aw_iload (npc := 70) rfl dX5_workOut_68 rfl ?_
            refine aw_bipush (npc := 72) (v := -2) (by decide) dX5_workOut_70 rfl ?_
            refine aw_icmp_ne (npc := 75) (tgt := 79) dX5_workOut_72 rfl (by decide) (fun hc10 => ?_) (fun hc10 => ?_)
            · refine aw_iload_n (npc := 80) rfl dX5_workOut_79 rfl ?_
              refine aw_iast (npc := 81) (j := top) dX5_workOut_80 rfl am_eq (am_ix_nI (by omega)) (by rw [tl_len]; omega) (show _ = am_up h a2 (.inl (0, tl Ls (upd sf top f3))) from am_uu.trans (congrArg (fun l : List Int32 => am_up h a2 (.inl (0, l))) tl_set)) ?_
              refine aw_iinc (npc := 84) (v := nI (top + 1)) (L' := [some (.ref a0), some (.int f1), some (.int f2), some (.int f3), some (.int (nI (top + 1))), some (.int (nI i)), some (.int (cf i))]) dX5_workOut_81 rfl rfl (nI_1 _) (by decide) rfl rfl ?_
              refine aw_goto (npc := 169) dX5_workOut_84 (by decide) ?_
              refine aw_iinc (npc := 172) (v := nI (i + 1)) (L' := [some (.ref a0), some (.int f1), some (.int f2), some (.int f3), some (.int (nI (top + 1))), some (.int (nI (i + 1))), some (.int (cf i))]) dX5_workOut_169 rfl rfl (nI_1 _) (by decide) rfl rfl ?_
              refine aw_goto (npc := 6) dX5_workOut_172 (by decide) ?_
              refine ih (i + 1) (by omega) (upd sf top f3) (top + 1) _ (by omega) ?_
              have e9 : wcS f1 f2 f3 Ls (sf, top) (cf i) = (upd sf top f3, (top + 1)) := by simp [wcS, hc2, hc7, hc7N, hc8, hc9, hc10]
              exact (congrArg (wcM f1 f2 f3 Ls cf m (i + 1)) e9) ▸ hq
            · refine aw_iload_n (npc := 76) rfl dX5_workOut_75 rfl ?_
              refine aw_goto (npc := 80) dX5_workOut_76 (by decide) ?_
              refine aw_iast (npc := 81) (j := top) dX5_workOut_80 rfl am_eq (am_ix_nI (by omega)) (by rw [tl_len]; omega) (show _ = am_up h a2 (.inl (0, tl Ls (upd sf top f2))) from am_uu.trans (congrArg (fun l : List Int32 => am_up h a2 (.inl (0, l))) tl_set)) ?_
              refine aw_iinc (npc := 84) (v := nI (top + 1)) (L' := [some (.ref a0), some (.int f1), some (.int f2), some (.int f3), some (.int (nI (top + 1))), some (.int (nI i)), some (.int (cf i))]) dX5_workOut_81 rfl rfl (nI_1 _) (by decide) rfl rfl ?_
              refine aw_goto (npc := 169) dX5_workOut_84 (by decide) ?_
              refine aw_iinc (npc := 172) (v := nI (i + 1)) (L' := [some (.ref a0), some (.int f1), some (.int f2), some (.int f3), some (.int (nI (top + 1))), some (.int (nI (i + 1))), some (.int (cf i))]) dX5_workOut_169 rfl rfl (nI_1 _) (by decide) rfl rfl ?_
              refine aw_goto (npc := 6) dX5_workOut_172 (by decide) ?_
              refine ih (i + 1) (by omega) (upd sf top f2) (top + 1) _ (by omega) ?_
              have e9 : wcS f1 f2 f3 Ls (sf, top) (cf i) = (upd sf top f2, (top + 1)) := by simp [wcS, hc2, hc7, hc7N, hc8, hc9, hc10]
              exact (congrArg (wcM f1 f2 f3 Ls cf m (i + 1)) e9) ▸ hq
          · refine aw_iload_n (npc := 65) rfl dX5_workOut_64 rfl ?_
            refine aw_goto (npc := 80) dX5_workOut_65 (by decide) ?_
            refine aw_iast (npc := 81) (j := top) dX5_workOut_80 rfl am_eq (am_ix_nI (by omega)) (by rw [tl_len]; omega) (show _ = am_up h a2 (.inl (0, tl Ls (upd sf top f1))) from am_uu.trans (congrArg (fun l : List Int32 => am_up h a2 (.inl (0, l))) tl_set)) ?_
            refine aw_iinc (npc := 84) (v := nI (top + 1)) (L' := [some (.ref a0), some (.int f1), some (.int f2), some (.int f3), some (.int (nI (top + 1))), some (.int (nI i)), some (.int (cf i))]) dX5_workOut_81 rfl rfl (nI_1 _) (by decide) rfl rfl ?_
            refine aw_goto (npc := 169) dX5_workOut_84 (by decide) ?_
            refine aw_iinc (npc := 172) (v := nI (i + 1)) (L' := [some (.ref a0), some (.int f1), some (.int f2), some (.int f3), some (.int (nI (top + 1))), some (.int (nI (i + 1))), some (.int (cf i))]) dX5_workOut_169 rfl rfl (nI_1 _) (by decide) rfl rfl ?_
            refine aw_goto (npc := 6) dX5_workOut_172 (by decide) ?_
            refine ih (i + 1) (by omega) (upd sf top f1) (top + 1) _ (by omega) ?_
            have e9 : wcS f1 f2 f3 Ls (sf, top) (cf i) = (upd sf top f1, (top + 1)) := by simp [wcS, hc2, hc7, hc7N, hc8, hc9]
            exact (congrArg (wcM f1 f2 f3 Ls cf m (i + 1)) e9) ▸ hq
        · refine aw_iload (npc := 55) rfl dX5_workOut_53 rfl ?_
          refine aw_goto (npc := 80) dX5_workOut_55 (by decide) ?_
          refine aw_iast (npc := 81) (j := top) dX5_workOut_80 rfl am_eq (am_ix_nI (by omega)) (by rw [tl_len]; omega) (show _ = am_up h a2 (.inl (0, tl Ls (upd sf top (cf i)))) from am_uu.trans (congrArg (fun l : List Int32 => am_up h a2 (.inl (0, l))) tl_set)) ?_
          refine aw_iinc (npc := 84) (v := nI (top + 1)) (L' := [some (.ref a0), some (.int f1), some (.int f2), some (.int f3), some (.int (nI (top + 1))), some (.int (nI i)), some (.int (cf i))]) dX5_workOut_81 rfl rfl (nI_1 _) (by decide) rfl rfl ?_
          refine aw_goto (npc := 169) dX5_workOut_84 (by decide) ?_
          refine aw_iinc (npc := 172) (v := nI (i + 1)) (L' := [some (.ref a0), some (.int f1), some (.int f2), some (.int f3), some (.int (nI (top + 1))), some (.int (nI (i + 1))), some (.int (cf i))]) dX5_workOut_169 rfl rfl (nI_1 _) (by decide) rfl rfl ?_
          refine aw_goto (npc := 6) dX5_workOut_172 (by decide) ?_
          refine ih (i + 1) (by omega) (upd sf top (cf i)) (top + 1) _ (by omega) ?_
          have e9 : wcS f1 f2 f3 Ls (sf, top) (cf i) = (upd sf top (cf i), (top + 1)) := by simp [wcS, hc2, hc7, hc7N, hc8]
          exact (congrArg (wcM f1 f2 f3 Ls cf m (i + 1)) e9) ▸ hq
set_option maxHeartbeats 4000000 in
set_option maxRecDepth 100000 in
theorem g_work {X : List Int32} {d rc rs n : Nat} {Q : am_Q} {h : am_H} {a0 a1 a2 lc Ls : Nat} {ky op f1 f2 f3 : Int32} {cf : Nat → Int32} (h02 : a0 ≠ a2) (h12 : a1 ≠ a2) (hl1 : lc < 1000) (hl2 : Ls < 1000) (hl3 : 0 < Ls) (t0 : h a0 = some (.inr (5, [.int ky, .int op, .ref a1, .ref a2]))) (t1 : h a1 = some (.inl (0, tl lc cf))) {sf : Nat → Int32} (t2 : h a2 = some (.inl (0, tl Ls sf))) (hq : ∀ sf9, sf9 = (wcM f1 f2 f3 Ls cf lc 0 (sf, 0)).1 → Q (some (.int (sf9 0))) n (am_up h a2 (.inl (0, tl Ls sf9)))) : AW X mX5_workOut (d + 2) rc rs 0 [some (.ref a0), some (.int f1), some (.int f2), some (.int f3), none, none, none] [] n h Q := by
  refine aw_hp (h' := am_up h a2 (.inl (0, tl Ls sf))) (am_us t2).symm ?_
  refine aw_iconst (npc := 1) (v := 0) (by decide) dX5_workOut_0 rfl ?_
  refine aw_istore (npc := 3) (L' := [some (.ref a0), some (.int f1), some (.int f2), some (.int f3), some (.int 0), none, none]) dX5_workOut_1 rfl (by decide) rfl rfl ?_
  refine aw_iconst (npc := 4) (v := 0) (by decide) dX5_workOut_3 rfl ?_
  refine aw_istore (npc := 6) (L' := [some (.ref a0), some (.int f1), some (.int f2), some (.int f3), some (.int 0), some (.int 0), none]) dX5_workOut_4 rfl (by decide) rfl rfl ?_
  exact g_workL h02 h12 hl1 hl2 hl3 t0 t1 lc 0 (by omega) sf 0 none (by omega) (hq _ rfl)
