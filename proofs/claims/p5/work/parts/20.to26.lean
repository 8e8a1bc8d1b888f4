def tl (n : Nat) (f : Nat → Int32) : List Int32 := (List.range n).map f
theorem tl_len {n : Nat} {f : Nat → Int32} : (tl n f).length = n := by simp [tl]
theorem tl_at {n j : Nat} {f : Nat → Int32} (h : j < n) : (tl n f)[j]? = some (f j) := by simp [tl, List.getElem?_range h]
theorem tl_congr {n : Nat} {f g : Nat → Int32} (h : ∀ j, j < n → f j = g j) : tl n f = tl n g := by
  unfold tl
  exact List.map_congr_left (fun j hj => h j (List.mem_range.mp hj))
theorem tl_set {n j : Nat} {f : Nat → Int32} {v : Int32} : (tl n f).set j v = tl n (upd f j v) := by
  apply List.ext_getElem?
  intro i
  by_cases hi : i < n
  · rw [tl_at hi]
    by_cases hj : i = j
    · subst hj
      rw [List.getElem?_set_self (by rw [tl_len]; exact hi), pk_us]
    · rw [List.getElem?_set_ne (Ne.symm hj), tl_at hi, pk_un hj]
  · rw [List.getElem?_eq_none (by rw [List.length_set, tl_len]; omega), List.getElem?_eq_none (by rw [tl_len]; omega)]
theorem tl_setN {n j o c : Nat} {N : Nat → Int32} {v : Int32} (hc : 0 < c) : (tl n (fun i => N (o + c * i))).set j v = tl n (fun i => upd N (o + c * j) v (o + c * i)) := by
  rw [tl_set]
  refine tl_congr (fun i _ => ?_)
  by_cases hi : i = j
  · subst hi; rw [pk_us, pk_us]
  · rw [pk_un hi, pk_un (fun q => hi (Nat.eq_of_mul_eq_mul_left hc (by omega)))]
theorem tl_keep {n o c k : Nat} {N : Nat → Int32} {v : Int32} (h : ∀ i, i < n → o + c * i ≠ k) : tl n (fun i => N (o + c * i)) = tl n (fun i => upd N k v (o + c * i)) := tl_congr (fun i hi => (pk_un (h i hi)).symm)
def QO (b : Nat) (N : Nat → Int32) : List Value := [.ref (b + 1), .ref (b + 2), .ref (b + 3), .int (N 3), .int (N 4), .int (N 5), .int (N 6), .int (N 2), .int (N 0), .int (N 1), .ref (b + 4), .ref (b + 5), .ref (b + 6), .ref (b + 7), .ref (b + 8), .ref (b + 9), .int (N 7), .ref (b + 10), .ref (b + 11)]
def QR (b : Nat) (N : Nat → Int32) (tx : List Value) (lk mv : Nat → Int32) (h : am_H) : Prop :=
  h b = some (.inr (0, QO b N)) ∧ h (b + 1) = some (.inl (0, tl 4 (fun i => N (8 + 1 * i)))) ∧ h (b + 2) = some (.inl (0, tl 8 (fun i => N (12 + 1 * i)))) ∧ h (b + 3) = some (.inl (0, tl 2 (fun i => N (20 + 1 * i)))) ∧
  h (b + 4) = some (.inl (0, tl 8 (fun i => N (22 + 5 * i)))) ∧ h (b + 5) = some (.inl (0, tl 8 (fun i => N (23 + 5 * i)))) ∧ h (b + 6) = some (.inl (0, tl 8 (fun i => N (24 + 5 * i)))) ∧ h (b + 7) = some (.inl (0, tl 8 (fun i => N (25 + 5 * i)))) ∧ h (b + 8) = some (.inl (0, tl 8 (fun i => N (26 + 5 * i)))) ∧
  h (b + 9) = some (.inr (15, tx)) ∧ h (b + 10) = some (.inl (0, tl 3 lk)) ∧ h (b + 11) = some (.inl (0, tl 4 mv))
theorem qr_frame {b : Nat} {N : Nat → Int32} {tx : List Value} {lk mv : Nat → Int32} {h h' : am_H} (F : QR b N tx lk mv h) (hf : ∀ k, b ≤ k → k < b + 12 → h' k = h k) : QR b N tx lk mv h' := by
  obtain ⟨f0, f1, f2, f3, f4, f5, f6, f7, f8, f9, f10, f11⟩ := F
  exact ⟨(hf _ (by omega) (by omega)).trans f0, (hf _ (by omega) (by omega)).trans f1, (hf _ (by omega) (by omega)).trans f2, (hf _ (by omega) (by omega)).trans f3, (hf _ (by omega) (by omega)).trans f4, (hf _ (by omega) (by omega)).trans f5, (hf _ (by omega) (by omega)).trans f6, (hf _ (by omega) (by omega)).trans f7, (hf _ (by omega) (by omega)).trans f8, (hf _ (by omega) (by omega)).trans f9, (hf _ (by omega) (by omega)).trans f10, (hf _ (by omega) (by omega)).trans f11⟩
theorem qr_out {b a : Nat} {N : Nat → Int32} {tx : List Value} {lk mv : Nat → Int32} {h : am_H} {c : am_AC} (ha : a < b ∨ b + 12 ≤ a) (F : QR b N tx lk mv h) : QR b N tx lk mv (am_up h a c) := qr_frame F (fun k h1 h2 => am_nE (by omega))
theorem qr_stand {b : Nat} {N : Nat → Int32} {tx : List Value} {lk mv : Nat → Int32} {h : am_H} {v : Int32} {j : Nat} (F : QR b N tx lk mv h) (hj : j < 4) : QR b (upd N (8 + 1 * j) v) tx lk mv (am_up h (b + 1) (.inl (0, (tl 4 (fun i => N (8 + 1 * i))).set j v))) := by
  obtain ⟨f0, f1, f2, f3, f4, f5, f6, f7, f8, f9, f10, f11⟩ := F
  exact ⟨(am_ne (by omega) (f0.trans (by simp only [QO]; rw [pk_un (f := N) (k := (8 + 1 * j)) (j := 3) (by omega), pk_un (f := N) (k := (8 + 1 * j)) (j := 4) (by omega), pk_un (f := N) (k := (8 + 1 * j)) (j := 5) (by omega), pk_un (f := N) (k := (8 + 1 * j)) (j := 6) (by omega), pk_un (f := N) (k := (8 + 1 * j)) (j := 2) (by omega), pk_un (f := N) (k := (8 + 1 * j)) (j := 0) (by omega), pk_un (f := N) (k := (8 + 1 * j)) (j := 1) (by omega), pk_un (f := N) (k := (8 + 1 * j)) (j := 7) (by omega)]))), (am_eq.trans (congrArg (fun l : List Int32 => (some (.inl (0, l)) : Option am_AC)) (tl_setN (by omega)))), (am_ne (by omega) (f2.trans (congrArg (fun l : List Int32 => (some (.inl (0, l)) : Option am_AC)) (tl_keep (fun i hi => by omega))))), (am_ne (by omega) (f3.trans (congrArg (fun l : List Int32 => (some (.inl (0, l)) : Option am_AC)) (tl_keep (fun i hi => by omega))))), (am_ne (by omega) (f4.trans (congrArg (fun l : List Int32 => (some (.inl (0, l)) : Option am_AC)) (tl_keep (fun i hi => by omega))))), (am_ne (by omega) (f5.trans (congrArg (fun l : List Int32 => (some (.inl (0, l)) : Option am_AC)) (tl_keep (fun i hi => by omega))))), (am_ne (by omega) (f6.trans (congrArg (fun l : List Int32 => (some (.inl (0, l)) : Option am_AC)) (tl_keep (fun i hi => by omega))))), (am_ne (by omega) (f7.trans (congrArg (fun l : List Int32 => (some (.inl (0, l)) : Option am_AC)) (tl_keep (fun i hi => by omega))))), (am_ne (by omega) (f8.trans (congrArg (fun l : List Int32 => (some (.inl (0, l)) : Option am_AC)) (tl_keep (fun i hi => by omega))))), (am_ne (by omega) f9), (am_ne (by omega) f10), (am_ne (by omega) f11)⟩
theorem qr_care {b : Nat} {N : Nat → Int32} {tx : List Value} {lk mv : Nat → Int32} {h : am_H} {v : Int32} {j : Nat} (F : QR b N tx lk mv h) (hj : j < 8) : QR b (upd N (12 + 1 * j) v) tx lk mv (am_up h (b + 2) (.inl (0, (tl 8 (fun i => N (12 + 1 * i))).set j v))) := by
  obtain ⟨f0, f1, f2, f3, f4, f5, f6, f7, f8, f9, f10, f11⟩ := F
  exact ⟨(am_ne (by omega) (f0.trans (by simp only [QO]; rw [pk_un (f := N) (k := (12 + 1 * j)) (j := 3) (by omega), pk_un (f := N) (k := (12 + 1 * j)) (j := 4) (by omega), pk_un (f := N) (k := (12 + 1 * j)) (j := 5) (by omega), pk_un (f := N) (k := (12 + 1 * j)) (j := 6) (by omega), pk_un (f := N) (k := (12 + 1 * j)) (j := 2) (by omega), pk_un (f := N) (k := (12 + 1 * j)) (j := 0) (by omega), pk_un (f := N) (k := (12 + 1 * j)) (j := 1) (by omega), pk_un (f := N) (k := (12 + 1 * j)) (j := 7) (by omega)]))), (am_ne (by omega) (f1.trans (congrArg (fun l : List Int32 => (some (.inl (0, l)) : Option am_AC)) (tl_keep (fun i hi => by omega))))), (am_eq.trans (congrArg (fun l : List Int32 => (some (.inl (0, l)) : Option am_AC)) (tl_setN (by omega)))), (am_ne (by omega) (f3.trans (congrArg (fun l : List Int32 => (some (.inl (0, l)) : Option am_AC)) (tl_keep (fun i hi => by omega))))), (am_ne (by omega) (f4.trans (congrArg (fun l : List Int32 => (some (.inl (0, l)) : Option am_AC)) (tl_keep (fun i hi => by omega))))), (am_ne (by omega) (f5.trans (congrArg (fun l : List Int32 => (some (.inl (0, l)) : Option am_AC)) (tl_keep (fun i hi => by omega))))), (am_ne (by omega) (f6.trans (congrArg (fun l : List Int32 => (some (.inl (0, l)) : Option am_AC)) (tl_keep (fun i hi => by omega))))), (am_ne (by omega) (f7.trans (congrArg (fun l : List Int32 => (some (.inl (0, l)) : Option am_AC)) (tl_keep (fun i hi => by omega))))), (am_ne (by omega) (f8.trans (congrArg (fun l : List Int32 => (some (.inl (0, l)) : Option am_AC)) (tl_keep (fun i hi => by omega))))), (am_ne (by omega) f9), (am_ne (by omega) f10), (am_ne (by omega) f11)⟩
theorem qr_honour {b : Nat} {N : Nat → Int32} {tx : List Value} {lk mv : Nat → Int32} {h : am_H} {v : Int32} {j : Nat} (F : QR b N tx lk mv h) (hj : j < 2) : QR b (upd N (20 + 1 * j) v) tx lk mv (am_up h (b + 3) (.inl (0, (tl 2 (fun i => N (20 + 1 * i))).set j v))) := by
  obtain ⟨f0, f1, f2, f3, f4, f5, f6, f7, f8, f9, f10, f11⟩ := F
  exact ⟨(am_ne (by omega) (f0.trans (by simp only [QO]; rw [pk_un (f := N) (k := (20 + 1 * j)) (j := 3) (by omega), pk_un (f := N) (k := (20 + 1 * j)) (j := 4) (by omega), pk_un (f := N) (k := (20 + 1 * j)) (j := 5) (by omega), pk_un (f := N) (k := (20 + 1 * j)) (j := 6) (by omega), pk_un (f := N) (k := (20 + 1 * j)) (j := 2) (by omega), pk_un (f := N) (k := (20 + 1 * j)) (j := 0) (by omega), pk_un (f := N) (k := (20 + 1 * j)) (j := 1) (by omega), pk_un (f := N) (k := (20 + 1 * j)) (j := 7) (by omega)]))), (am_ne (by omega) (f1.trans (congrArg (fun l : List Int32 => (some (.inl (0, l)) : Option am_AC)) (tl_keep (fun i hi => by omega))))), (am_ne (by omega) (f2.trans (congrArg (fun l : List Int32 => (some (.inl (0, l)) : Option am_AC)) (tl_keep (fun i hi => by omega))))), (am_eq.trans (congrArg (fun l : List Int32 => (some (.inl (0, l)) : Option am_AC)) (tl_setN (by omega)))), (am_ne (by omega) (f4.trans (congrArg (fun l : List Int32 => (some (.inl (0, l)) : Option am_AC)) (tl_keep (fun i hi => by omega))))), (am_ne (by omega) (f5.trans (congrArg (fun l : List Int32 => (some (.inl (0, l)) : Option am_AC)) (tl_keep (fun i hi => by omega))))), (am_ne (by omega) (f6.trans (congrArg (fun l : List Int32 => (some (.inl (0, l)) : Option am_AC)) (tl_keep (fun i hi => by omega))))), (am_ne (by omega) (f7.trans (congrArg (fun l : List Int32 => (some (.inl (0, l)) : Option am_AC)) (tl_keep (fun i hi => by omega))))), (am_ne (by omega) (f8.trans (congrArg (fun l : List Int32 => (some (.inl (0, l)) : Option am_AC)) (tl_keep (fun i hi => by omega))))), (am_ne (by omega) f9), (am_ne (by omega) f10), (am_ne (by omega) f11)⟩
theorem qr_kind {b : Nat} {N : Nat → Int32} {tx : List Value} {lk mv : Nat → Int32} {h : am_H} {v : Int32} {j : Nat} (F : QR b N tx lk mv h) (hj : j < 8) : QR b (upd N (22 + 5 * j) v) tx lk mv (am_up h (b + 4) (.inl (0, (tl 8 (fun i => N (22 + 5 * i))).set j v))) := by
  obtain ⟨f0, f1, f2, f3, f4, f5, f6, f7, f8, f9, f10, f11⟩ := F
  exact ⟨(am_ne (by omega) (f0.trans (by simp only [QO]; rw [pk_un (f := N) (k := (22 + 5 * j)) (j := 3) (by omega), pk_un (f := N) (k := (22 + 5 * j)) (j := 4) (by omega), pk_un (f := N) (k := (22 + 5 * j)) (j := 5) (by omega), pk_un (f := N) (k := (22 + 5 * j)) (j := 6) (by omega), pk_un (f := N) (k := (22 + 5 * j)) (j := 2) (by omega), pk_un (f := N) (k := (22 + 5 * j)) (j := 0) (by omega), pk_un (f := N) (k := (22 + 5 * j)) (j := 1) (by omega), pk_un (f := N) (k := (22 + 5 * j)) (j := 7) (by omega)]))), (am_ne (by omega) (f1.trans (congrArg (fun l : List Int32 => (some (.inl (0, l)) : Option am_AC)) (tl_keep (fun i hi => by omega))))), (am_ne (by omega) (f2.trans (congrArg (fun l : List Int32 => (some (.inl (0, l)) : Option am_AC)) (tl_keep (fun i hi => by omega))))), (am_ne (by omega) (f3.trans (congrArg (fun l : List Int32 => (some (.inl (0, l)) : Option am_AC)) (tl_keep (fun i hi => by omega))))), (am_eq.trans (congrArg (fun l : List Int32 => (some (.inl (0, l)) : Option am_AC)) (tl_setN (by omega)))), (am_ne (by omega) (f5.trans (congrArg (fun l : List Int32 => (some (.inl (0, l)) : Option am_AC)) (tl_keep (fun i hi => by omega))))), (am_ne (by omega) (f6.trans (congrArg (fun l : List Int32 => (some (.inl (0, l)) : Option am_AC)) (tl_keep (fun i hi => by omega))))), (am_ne (by omega) (f7.trans (congrArg (fun l : List Int32 => (some (.inl (0, l)) : Option am_AC)) (tl_keep (fun i hi => by omega))))), (am_ne (by omega) (f8.trans (congrArg (fun l : List Int32 => (some (.inl (0, l)) : Option am_AC)) (tl_keep (fun i hi => by omega))))), (am_ne (by omega) f9), (am_ne (by omega) f10), (am_ne (by omega) f11)⟩
theorem qr_side {b : Nat} {N : Nat → Int32} {tx : List Value} {lk mv : Nat → Int32} {h : am_H} {v : Int32} {j : Nat} (F : QR b N tx lk mv h) (hj : j < 8) : QR b (upd N (23 + 5 * j) v) tx lk mv (am_up h (b + 5) (.inl (0, (tl 8 (fun i => N (23 + 5 * i))).set j v))) := by
  obtain ⟨f0, f1, f2, f3, f4, f5, f6, f7, f8, f9, f10, f11⟩ := F
  exact ⟨(am_ne (by omega) (f0.trans (by simp only [QO]; rw [pk_un (f := N) (k := (23 + 5 * j)) (j := 3) (by omega), pk_un (f := N) (k := (23 + 5 * j)) (j := 4) (by omega), pk_un (f := N) (k := (23 + 5 * j)) (j := 5) (by omega), pk_un (f := N) (k := (23 + 5 * j)) (j := 6) (by omega), pk_un (f := N) (k := (23 + 5 * j)) (j := 2) (by omega), pk_un (f := N) (k := (23 + 5 * j)) (j := 0) (by omega), pk_un (f := N) (k := (23 + 5 * j)) (j := 1) (by omega), pk_un (f := N) (k := (23 + 5 * j)) (j := 7) (by omega)]))), (am_ne (by omega) (f1.trans (congrArg (fun l : List Int32 => (some (.inl (0, l)) : Option am_AC)) (tl_keep (fun i hi => by omega))))), (am_ne (by omega) (f2.trans (congrArg (fun l : List Int32 => (some (.inl (0, l)) : Option am_AC)) (tl_keep (fun i hi => by omega))))), (am_ne (by omega) (f3.trans (congrArg (fun l : List Int32 => (some (.inl (0, l)) : Option am_AC)) (tl_keep (fun i hi => by omega))))), (am_ne (by omega) (f4.trans (congrArg (fun l : List Int32 => (some (.inl (0, l)) : Option am_AC)) (tl_keep (fun i hi => by omega))))), (am_eq.trans (congrArg (fun l : List Int32 => (some (.inl (0, l)) : Option am_AC)) (tl_setN (by omega)))), (am_ne (by omega) (f6.trans (congrArg (fun l : List Int32 => (some (.inl (0, l)) : Option am_AC)) (tl_keep (fun i hi => by omega))))), (am_ne (by omega) (f7.trans (congrArg (fun l : List Int32 => (some (.inl (0, l)) : Option am_AC)) (tl_keep (fun i hi => by omega))))), (am_ne (by omega) (f8.trans (congrArg (fun l : List Int32 => (some (.inl (0, l)) : Option am_AC)) (tl_keep (fun i hi => by omega))))), (am_ne (by omega) f9), (am_ne (by omega) f10), (am_ne (by omega) f11)⟩
theorem qr_pride {b : Nat} {N : Nat → Int32} {tx : List Value} {lk mv : Nat → Int32} {h : am_H} {v : Int32} {j : Nat} (F : QR b N tx lk mv h) (hj : j < 8) : QR b (upd N (24 + 5 * j) v) tx lk mv (am_up h (b + 6) (.inl (0, (tl 8 (fun i => N (24 + 5 * i))).set j v))) := by
  obtain ⟨f0, f1, f2, f3, f4, f5, f6, f7, f8, f9, f10, f11⟩ := F
  exact ⟨(am_ne (by omega) (f0.trans (by simp only [QO]; rw [pk_un (f := N) (k := (24 + 5 * j)) (j := 3) (by omega), pk_un (f := N) (k := (24 + 5 * j)) (j := 4) (by omega), pk_un (f := N) (k := (24 + 5 * j)) (j := 5) (by omega), pk_un (f := N) (k := (24 + 5 * j)) (j := 6) (by omega), pk_un (f := N) (k := (24 + 5 * j)) (j := 2) (by omega), pk_un (f := N) (k := (24 + 5 * j)) (j := 0) (by omega), pk_un (f := N) (k := (24 + 5 * j)) (j := 1) (by omega), pk_un (f := N) (k := (24 + 5 * j)) (j := 7) (by omega)]))), (am_ne (by omega) (f1.trans (congrArg (fun l : List Int32 => (some (.inl (0, l)) : Option am_AC)) (tl_keep (fun i hi => by omega))))), (am_ne (by omega) (f2.trans (congrArg (fun l : List Int32 => (some (.inl (0, l)) : Option am_AC)) (tl_keep (fun i hi => by omega))))), (am_ne (by omega) (f3.trans (congrArg (fun l : List Int32 => (some (.inl (0, l)) : Option am_AC)) (tl_keep (fun i hi => by omega))))), (am_ne (by omega) (f4.trans (congrArg (fun l : List Int32 => (some (.inl (0, l)) : Option am_AC)) (tl_keep (fun i hi => by omega))))), (am_ne (by omega) (f5.trans (congrArg (fun l : List Int32 => (some (.inl (0, l)) : Option am_AC)) (tl_keep (fun i hi => by omega))))), (am_eq.trans (congrArg (fun l : List Int32 => (some (.inl (0, l)) : Option am_AC)) (tl_setN (by omega)))), (am_ne (by omega) (f7.trans (congrArg (fun l : List Int32 => (some (.inl (0, l)) : Option am_AC)) (tl_keep (fun i hi => by omega))))), (am_ne (by omega) (f8.trans (congrArg (fun l : List Int32 => (some (.inl (0, l)) : Option am_AC)) (tl_keep (fun i hi => by omega))))), (am_ne (by omega) f9), (am_ne (by omega) f10), (am_ne (by omega) f11)⟩
theorem qr_sent {b : Nat} {N : Nat → Int32} {tx : List Value} {lk mv : Nat → Int32} {h : am_H} {v : Int32} {j : Nat} (F : QR b N tx lk mv h) (hj : j < 8) : QR b (upd N (25 + 5 * j) v) tx lk mv (am_up h (b + 7) (.inl (0, (tl 8 (fun i => N (25 + 5 * i))).set j v))) := by
  obtain ⟨f0, f1, f2, f3, f4, f5, f6, f7, f8, f9, f10, f11⟩ := F
  exact ⟨(am_ne (by omega) (f0.trans (by simp only [QO]; rw [pk_un (f := N) (k := (25 + 5 * j)) (j := 3) (by omega), pk_un (f := N) (k := (25 + 5 * j)) (j := 4) (by omega), pk_un (f := N) (k := (25 + 5 * j)) (j := 5) (by omega), pk_un (f := N) (k := (25 + 5 * j)) (j := 6) (by omega), pk_un (f := N) (k := (25 + 5 * j)) (j := 2) (by omega), pk_un (f := N) (k := (25 + 5 * j)) (j := 0) (by omega), pk_un (f := N) (k := (25 + 5 * j)) (j := 1) (by omega), pk_un (f := N) (k := (25 + 5 * j)) (j := 7) (by omega)]))), (am_ne (by omega) (f1.trans (congrArg (fun l : List Int32 => (some (.inl (0, l)) : Option am_AC)) (tl_keep (fun i hi => by omega))))), (am_ne (by omega) (f2.trans (congrArg (fun l : List Int32 => (some (.inl (0, l)) : Option am_AC)) (tl_keep (fun i hi => by omega))))), (am_ne (by omega) (f3.trans (congrArg (fun l : List Int32 => (some (.inl (0, l)) : Option am_AC)) (tl_keep (fun i hi => by omega))))), (am_ne (by omega) (f4.trans (congrArg (fun l : List Int32 => (some (.inl (0, l)) : Option am_AC)) (tl_keep (fun i hi => by omega))))), (am_ne (by omega) (f5.trans (congrArg (fun l : List Int32 => (some (.inl (0, l)) : Option am_AC)) (tl_keep (fun i hi => by omega))))), (am_ne (by omega) (f6.trans (congrArg (fun l : List Int32 => (some (.inl (0, l)) : Option am_AC)) (tl_keep (fun i hi => by omega))))), (am_eq.trans (congrArg (fun l : List Int32 => (some (.inl (0, l)) : Option am_AC)) (tl_setN (by omega)))), (am_ne (by omega) (f8.trans (congrArg (fun l : List Int32 => (some (.inl (0, l)) : Option am_AC)) (tl_keep (fun i hi => by omega))))), (am_ne (by omega) f9), (am_ne (by omega) f10), (am_ne (by omega) f11)⟩
theorem qr_yield {b : Nat} {N : Nat → Int32} {tx : List Value} {lk mv : Nat → Int32} {h : am_H} {v : Int32} {j : Nat} (F : QR b N tx lk mv h) (hj : j < 8) : QR b (upd N (26 + 5 * j) v) tx lk mv (am_up h (b + 8) (.inl (0, (tl 8 (fun i => N (26 + 5 * i))).set j v))) := by
  obtain ⟨f0, f1, f2, f3, f4, f5, f6, f7, f8, f9, f10, f11⟩ := F
  exact ⟨(am_ne (by omega) (f0.trans (by simp only [QO]; rw [pk_un (f := N) (k := (26 + 5 * j)) (j := 3) (by omega), pk_un (f := N) (k := (26 + 5 * j)) (j := 4) (by omega), pk_un (f := N) (k := (26 + 5 * j)) (j := 5) (by omega), pk_un (f := N) (k := (26 + 5 * j)) (j := 6) (by omega), pk_un (f := N) (k := (26 + 5 * j)) (j := 2) (by omega), pk_un (f := N) (k := (26 + 5 * j)) (j := 0) (by omega), pk_un (f := N) (k := (26 + 5 * j)) (j := 1) (by omega), pk_un (f := N) (k := (26 + 5 * j)) (j := 7) (by omega)]))), (am_ne (by omega) (f1.trans (congrArg (fun l : List Int32 => (some (.inl (0, l)) : Option am_AC)) (tl_keep (fun i hi => by omega))))), (am_ne (by omega) (f2.trans (congrArg (fun l : List Int32 => (some (.inl (0, l)) : Option am_AC)) (tl_keep (fun i hi => by omega))))), (am_ne (by omega) (f3.trans (congrArg (fun l : List Int32 => (some (.inl (0, l)) : Option am_AC)) (tl_keep (fun i hi => by omega))))), (am_ne (by omega) (f4.trans (congrArg (fun l : List Int32 => (some (.inl (0, l)) : Option am_AC)) (tl_keep (fun i hi => by omega))))), (am_ne (by omega) (f5.trans (congrArg (fun l : List Int32 => (some (.inl (0, l)) : Option am_AC)) (tl_keep (fun i hi => by omega))))), (am_ne (by omega) (f6.trans (congrArg (fun l : List Int32 => (some (.inl (0, l)) : Option am_AC)) (tl_keep (fun i hi => by omega))))), (am_ne (by omega) (f7.trans (congrArg (fun l : List Int32 => (some (.inl (0, l)) : Option am_AC)) (tl_keep (fun i hi => by omega))))), (am_eq.trans (congrArg (fun l : List Int32 => (some (.inl (0, l)) : Option am_AC)) (tl_setN (by omega)))), (am_ne (by omega) f9), (am_ne (by omega) f10), (am_ne (by omega) f11)⟩
theorem qr_heat {b : Nat} {N : Nat → Int32} {tx : List Value} {lk mv : Nat → Int32} {h : am_H} {v : Int32} (F : QR b N tx lk mv h) : QR b (upd N 3 v) tx lk mv (am_up h b (.inr (0, (QO b N).set 3 (.int v)))) := by
  obtain ⟨f0, f1, f2, f3, f4, f5, f6, f7, f8, f9, f10, f11⟩ := F
  exact ⟨(am_eq.trans (by simp only [QO, List.set]; rw [pk_us (f := N) (k := 3), pk_un (f := N) (k := 3) (j := 4) (by omega), pk_un (f := N) (k := 3) (j := 5) (by omega), pk_un (f := N) (k := 3) (j := 6) (by omega), pk_un (f := N) (k := 3) (j := 2) (by omega), pk_un (f := N) (k := 3) (j := 0) (by omega), pk_un (f := N) (k := 3) (j := 1) (by omega), pk_un (f := N) (k := 3) (j := 7) (by omega)])), (am_ne (by omega) (f1.trans (congrArg (fun l : List Int32 => (some (.inl (0, l)) : Option am_AC)) (tl_keep (fun i hi => by omega))))), (am_ne (by omega) (f2.trans (congrArg (fun l : List Int32 => (some (.inl (0, l)) : Option am_AC)) (tl_keep (fun i hi => by omega))))), (am_ne (by omega) (f3.trans (congrArg (fun l : List Int32 => (some (.inl (0, l)) : Option am_AC)) (tl_keep (fun i hi => by omega))))), (am_ne (by omega) (f4.trans (congrArg (fun l : List Int32 => (some (.inl (0, l)) : Option am_AC)) (tl_keep (fun i hi => by omega))))), (am_ne (by omega) (f5.trans (congrArg (fun l : List Int32 => (some (.inl (0, l)) : Option am_AC)) (tl_keep (fun i hi => by omega))))), (am_ne (by omega) (f6.trans (congrArg (fun l : List Int32 => (some (.inl (0, l)) : Option am_AC)) (tl_keep (fun i hi => by omega))))), (am_ne (by omega) (f7.trans (congrArg (fun l : List Int32 => (some (.inl (0, l)) : Option am_AC)) (tl_keep (fun i hi => by omega))))), (am_ne (by omega) (f8.trans (congrArg (fun l : List Int32 => (some (.inl (0, l)) : Option am_AC)) (tl_keep (fun i hi => by omega))))), (am_ne (by omega) f9), (am_ne (by omega) f10), (am_ne (by omega) f11)⟩
theorem qr_duel {b : Nat} {N : Nat → Int32} {tx : List Value} {lk mv : Nat → Int32} {h : am_H} {v : Int32} (F : QR b N tx lk mv h) : QR b (upd N 4 v) tx lk mv (am_up h b (.inr (0, (QO b N).set 4 (.int v)))) := by
  obtain ⟨f0, f1, f2, f3, f4, f5, f6, f7, f8, f9, f10, f11⟩ := F
  exact ⟨(am_eq.trans (by simp only [QO, List.set]; rw [pk_un (f := N) (k := 4) (j := 3) (by omega), pk_us (f := N) (k := 4), pk_un (f := N) (k := 4) (j := 5) (by omega), pk_un (f := N) (k := 4) (j := 6) (by omega), pk_un (f := N) (k := 4) (j := 2) (by omega), pk_un (f := N) (k := 4) (j := 0) (by omega), pk_un (f := N) (k := 4) (j := 1) (by omega), pk_un (f := N) (k := 4) (j := 7) (by omega)])), (am_ne (by omega) (f1.trans (congrArg (fun l : List Int32 => (some (.inl (0, l)) : Option am_AC)) (tl_keep (fun i hi => by omega))))), (am_ne (by omega) (f2.trans (congrArg (fun l : List Int32 => (some (.inl (0, l)) : Option am_AC)) (tl_keep (fun i hi => by omega))))), (am_ne (by omega) (f3.trans (congrArg (fun l : List Int32 => (some (.inl (0, l)) : Option am_AC)) (tl_keep (fun i hi => by omega))))), (am_ne (by omega) (f4.trans (congrArg (fun l : List Int32 => (some (.inl (0, l)) : Option am_AC)) (tl_keep (fun i hi => by omega))))), (am_ne (by omega) (f5.trans (congrArg (fun l : List Int32 => (some (.inl (0, l)) : Option am_AC)) (tl_keep (fun i hi => by omega))))), (am_ne (by omega) (f6.trans (congrArg (fun l : List Int32 => (some (.inl (0, l)) : Option am_AC)) (tl_keep (fun i hi => by omega))))), (am_ne (by omega) (f7.trans (congrArg (fun l : List Int32 => (some (.inl (0, l)) : Option am_AC)) (tl_keep (fun i hi => by omega))))), (am_ne (by omega) (f8.trans (congrArg (fun l : List Int32 => (some (.inl (0, l)) : Option am_AC)) (tl_keep (fun i hi => by omega))))), (am_ne (by omega) f9), (am_ne (by omega) f10), (am_ne (by omega) f11)⟩
theorem qr_loss {b : Nat} {N : Nat → Int32} {tx : List Value} {lk mv : Nat → Int32} {h : am_H} {v : Int32} (F : QR b N tx lk mv h) : QR b (upd N 5 v) tx lk mv (am_up h b (.inr (0, (QO b N).set 5 (.int v)))) := by
  obtain ⟨f0, f1, f2, f3, f4, f5, f6, f7, f8, f9, f10, f11⟩ := F
  exact ⟨(am_eq.trans (by simp only [QO, List.set]; rw [pk_un (f := N) (k := 5) (j := 3) (by omega), pk_un (f := N) (k := 5) (j := 4) (by omega), pk_us (f := N) (k := 5), pk_un (f := N) (k := 5) (j := 6) (by omega), pk_un (f := N) (k := 5) (j := 2) (by omega), pk_un (f := N) (k := 5) (j := 0) (by omega), pk_un (f := N) (k := 5) (j := 1) (by omega), pk_un (f := N) (k := 5) (j := 7) (by omega)])), (am_ne (by omega) (f1.trans (congrArg (fun l : List Int32 => (some (.inl (0, l)) : Option am_AC)) (tl_keep (fun i hi => by omega))))), (am_ne (by omega) (f2.trans (congrArg (fun l : List Int32 => (some (.inl (0, l)) : Option am_AC)) (tl_keep (fun i hi => by omega))))), (am_ne (by omega) (f3.trans (congrArg (fun l : List Int32 => (some (.inl (0, l)) : Option am_AC)) (tl_keep (fun i hi => by omega))))), (am_ne (by omega) (f4.trans (congrArg (fun l : List Int32 => (some (.inl (0, l)) : Option am_AC)) (tl_keep (fun i hi => by omega))))), (am_ne (by omega) (f5.trans (congrArg (fun l : List Int32 => (some (.inl (0, l)) : Option am_AC)) (tl_keep (fun i hi => by omega))))), (am_ne (by omega) (f6.trans (congrArg (fun l : List Int32 => (some (.inl (0, l)) : Option am_AC)) (tl_keep (fun i hi => by omega))))), (am_ne (by omega) (f7.trans (congrArg (fun l : List Int32 => (some (.inl (0, l)) : Option am_AC)) (tl_keep (fun i hi => by omega))))), (am_ne (by omega) (f8.trans (congrArg (fun l : List Int32 => (some (.inl (0, l)) : Option am_AC)) (tl_keep (fun i hi => by omega))))), (am_ne (by omega) f9), (am_ne (by omega) f10), (am_ne (by omega) f11)⟩
theorem qr_lost {b : Nat} {N : Nat → Int32} {tx : List Value} {lk mv : Nat → Int32} {h : am_H} {v : Int32} (F : QR b N tx lk mv h) : QR b (upd N 6 v) tx lk mv (am_up h b (.inr (0, (QO b N).set 6 (.int v)))) := by
  obtain ⟨f0, f1, f2, f3, f4, f5, f6, f7, f8, f9, f10, f11⟩ := F
  exact ⟨(am_eq.trans (by simp only [QO, List.set]; rw [pk_un (f := N) (k := 6) (j := 3) (by omega), pk_un (f := N) (k := 6) (j := 4) (by omega), pk_un (f := N) (k := 6) (j := 5) (by omega), pk_us (f := N) (k := 6), pk_un (f := N) (k := 6) (j := 2) (by omega), pk_un (f := N) (k := 6) (j := 0) (by omega), pk_un (f := N) (k := 6) (j := 1) (by omega), pk_un (f := N) (k := 6) (j := 7) (by omega)])), (am_ne (by omega) (f1.trans (congrArg (fun l : List Int32 => (some (.inl (0, l)) : Option am_AC)) (tl_keep (fun i hi => by omega))))), (am_ne (by omega) (f2.trans (congrArg (fun l : List Int32 => (some (.inl (0, l)) : Option am_AC)) (tl_keep (fun i hi => by omega))))), (am_ne (by omega) (f3.trans (congrArg (fun l : List Int32 => (some (.inl (0, l)) : Option am_AC)) (tl_keep (fun i hi => by omega))))), (am_ne (by omega) (f4.trans (congrArg (fun l : List Int32 => (some (.inl (0, l)) : Option am_AC)) (tl_keep (fun i hi => by omega))))), (am_ne (by omega) (f5.trans (congrArg (fun l : List Int32 => (some (.inl (0, l)) : Option am_AC)) (tl_keep (fun i hi => by omega))))), (am_ne (by omega) (f6.trans (congrArg (fun l : List Int32 => (some (.inl (0, l)) : Option am_AC)) (tl_keep (fun i hi => by omega))))), (am_ne (by omega) (f7.trans (congrArg (fun l : List Int32 => (some (.inl (0, l)) : Option am_AC)) (tl_keep (fun i hi => by omega))))), (am_ne (by omega) (f8.trans (congrArg (fun l : List Int32 => (some (.inl (0, l)) : Option am_AC)) (tl_keep (fun i hi => by omega))))), (am_ne (by omega) f9), (am_ne (by omega) f10), (am_ne (by omega) f11)⟩
theorem qr_post {b : Nat} {N : Nat → Int32} {tx : List Value} {lk mv : Nat → Int32} {h : am_H} {v : Int32} (F : QR b N tx lk mv h) : QR b (upd N 2 v) tx lk mv (am_up h b (.inr (0, (QO b N).set 7 (.int v)))) := by
  obtain ⟨f0, f1, f2, f3, f4, f5, f6, f7, f8, f9, f10, f11⟩ := F
  exact ⟨(am_eq.trans (by simp only [QO, List.set]; rw [pk_un (f := N) (k := 2) (j := 3) (by omega), pk_un (f := N) (k := 2) (j := 4) (by omega), pk_un (f := N) (k := 2) (j := 5) (by omega), pk_un (f := N) (k := 2) (j := 6) (by omega), pk_us (f := N) (k := 2), pk_un (f := N) (k := 2) (j := 0) (by omega), pk_un (f := N) (k := 2) (j := 1) (by omega), pk_un (f := N) (k := 2) (j := 7) (by omega)])), (am_ne (by omega) (f1.trans (congrArg (fun l : List Int32 => (some (.inl (0, l)) : Option am_AC)) (tl_keep (fun i hi => by omega))))), (am_ne (by omega) (f2.trans (congrArg (fun l : List Int32 => (some (.inl (0, l)) : Option am_AC)) (tl_keep (fun i hi => by omega))))), (am_ne (by omega) (f3.trans (congrArg (fun l : List Int32 => (some (.inl (0, l)) : Option am_AC)) (tl_keep (fun i hi => by omega))))), (am_ne (by omega) (f4.trans (congrArg (fun l : List Int32 => (some (.inl (0, l)) : Option am_AC)) (tl_keep (fun i hi => by omega))))), (am_ne (by omega) (f5.trans (congrArg (fun l : List Int32 => (some (.inl (0, l)) : Option am_AC)) (tl_keep (fun i hi => by omega))))), (am_ne (by omega) (f6.trans (congrArg (fun l : List Int32 => (some (.inl (0, l)) : Option am_AC)) (tl_keep (fun i hi => by omega))))), (am_ne (by omega) (f7.trans (congrArg (fun l : List Int32 => (some (.inl (0, l)) : Option am_AC)) (tl_keep (fun i hi => by omega))))), (am_ne (by omega) (f8.trans (congrArg (fun l : List Int32 => (some (.inl (0, l)) : Option am_AC)) (tl_keep (fun i hi => by omega))))), (am_ne (by omega) f9), (am_ne (by omega) f10), (am_ne (by omega) f11)⟩
theorem qr_z {b : Nat} {N : Nat → Int32} {tx : List Value} {lk mv : Nat → Int32} {h : am_H} {v : Int32} (F : QR b N tx lk mv h) : QR b (upd N 0 v) tx lk mv (am_up h b (.inr (0, (QO b N).set 8 (.int v)))) := by
  obtain ⟨f0, f1, f2, f3, f4, f5, f6, f7, f8, f9, f10, f11⟩ := F
  exact ⟨(am_eq.trans (by simp only [QO, List.set]; rw [pk_un (f := N) (k := 0) (j := 3) (by omega), pk_un (f := N) (k := 0) (j := 4) (by omega), pk_un (f := N) (k := 0) (j := 5) (by omega), pk_un (f := N) (k := 0) (j := 6) (by omega), pk_un (f := N) (k := 0) (j := 2) (by omega), pk_us (f := N) (k := 0), pk_un (f := N) (k := 0) (j := 1) (by omega), pk_un (f := N) (k := 0) (j := 7) (by omega)])), (am_ne (by omega) (f1.trans (congrArg (fun l : List Int32 => (some (.inl (0, l)) : Option am_AC)) (tl_keep (fun i hi => by omega))))), (am_ne (by omega) (f2.trans (congrArg (fun l : List Int32 => (some (.inl (0, l)) : Option am_AC)) (tl_keep (fun i hi => by omega))))), (am_ne (by omega) (f3.trans (congrArg (fun l : List Int32 => (some (.inl (0, l)) : Option am_AC)) (tl_keep (fun i hi => by omega))))), (am_ne (by omega) (f4.trans (congrArg (fun l : List Int32 => (some (.inl (0, l)) : Option am_AC)) (tl_keep (fun i hi => by omega))))), (am_ne (by omega) (f5.trans (congrArg (fun l : List Int32 => (some (.inl (0, l)) : Option am_AC)) (tl_keep (fun i hi => by omega))))), (am_ne (by omega) (f6.trans (congrArg (fun l : List Int32 => (some (.inl (0, l)) : Option am_AC)) (tl_keep (fun i hi => by omega))))), (am_ne (by omega) (f7.trans (congrArg (fun l : List Int32 => (some (.inl (0, l)) : Option am_AC)) (tl_keep (fun i hi => by omega))))), (am_ne (by omega) (f8.trans (congrArg (fun l : List Int32 => (some (.inl (0, l)) : Option am_AC)) (tl_keep (fun i hi => by omega))))), (am_ne (by omega) f9), (am_ne (by omega) f10), (am_ne (by omega) f11)⟩
theorem qr_friends {b : Nat} {N : Nat → Int32} {tx : List Value} {lk mv : Nat → Int32} {h : am_H} {v : Int32} (F : QR b N tx lk mv h) : QR b (upd N 1 v) tx lk mv (am_up h b (.inr (0, (QO b N).set 9 (.int v)))) := by
  obtain ⟨f0, f1, f2, f3, f4, f5, f6, f7, f8, f9, f10, f11⟩ := F
  exact ⟨(am_eq.trans (by simp only [QO, List.set]; rw [pk_un (f := N) (k := 1) (j := 3) (by omega), pk_un (f := N) (k := 1) (j := 4) (by omega), pk_un (f := N) (k := 1) (j := 5) (by omega), pk_un (f := N) (k := 1) (j := 6) (by omega), pk_un (f := N) (k := 1) (j := 2) (by omega), pk_un (f := N) (k := 1) (j := 0) (by omega), pk_us (f := N) (k := 1), pk_un (f := N) (k := 1) (j := 7) (by omega)])), (am_ne (by omega) (f1.trans (congrArg (fun l : List Int32 => (some (.inl (0, l)) : Option am_AC)) (tl_keep (fun i hi => by omega))))), (am_ne (by omega) (f2.trans (congrArg (fun l : List Int32 => (some (.inl (0, l)) : Option am_AC)) (tl_keep (fun i hi => by omega))))), (am_ne (by omega) (f3.trans (congrArg (fun l : List Int32 => (some (.inl (0, l)) : Option am_AC)) (tl_keep (fun i hi => by omega))))), (am_ne (by omega) (f4.trans (congrArg (fun l : List Int32 => (some (.inl (0, l)) : Option am_AC)) (tl_keep (fun i hi => by omega))))), (am_ne (by omega) (f5.trans (congrArg (fun l : List Int32 => (some (.inl (0, l)) : Option am_AC)) (tl_keep (fun i hi => by omega))))), (am_ne (by omega) (f6.trans (congrArg (fun l : List Int32 => (some (.inl (0, l)) : Option am_AC)) (tl_keep (fun i hi => by omega))))), (am_ne (by omega) (f7.trans (congrArg (fun l : List Int32 => (some (.inl (0, l)) : Option am_AC)) (tl_keep (fun i hi => by omega))))), (am_ne (by omega) (f8.trans (congrArg (fun l : List Int32 => (some (.inl (0, l)) : Option am_AC)) (tl_keep (fun i hi => by omega))))), (am_ne (by omega) f9), (am_ne (by omega) f10), (am_ne (by omega) f11)⟩
theorem qr_moves {b : Nat} {N : Nat → Int32} {tx : List Value} {lk mv : Nat → Int32} {h : am_H} {v : Int32} {j : Nat} (F : QR b N tx lk mv h) : QR b N tx lk (upd mv j v) (am_up h (b + 11) (.inl (0, (tl 4 mv).set j v))) := by
  obtain ⟨f0, f1, f2, f3, f4, f5, f6, f7, f8, f9, f10, f11⟩ := F
  exact ⟨am_ne (by omega) f0, am_ne (by omega) f1, am_ne (by omega) f2, am_ne (by omega) f3, am_ne (by omega) f4, am_ne (by omega) f5, am_ne (by omega) f6, am_ne (by omega) f7, am_ne (by omega) f8, am_ne (by omega) f9, am_ne (by omega) f10, am_eq.trans (congrArg (fun l : List Int32 => (some (.inl (0, l)) : Option am_AC)) tl_set)⟩
def am_fb (lo hi : Nat) (h' h : am_H) : Prop := ∀ k, (k < lo ∨ hi ≤ k) → h' k = h k
theorem am_fb0 {lo hi : Nat} {h : am_H} : am_fb lo hi h h := fun _ _ => rfl
theorem am_fbU {lo hi a : Nat} {h h' : am_H} {c : am_AC} (ha : lo ≤ a ∧ a < hi) (hf : am_fb lo hi h' h) : am_fb lo hi (am_up h' a c) h := fun k hk => by
  rw [am_nE (by omega)]
  exact hf k hk
theorem am_fbT {lo hi : Nat} {h h' h'' : am_H} (h1 : am_fb lo hi h'' h') (h2 : am_fb lo hi h' h) : am_fb lo hi h'' h := fun k hk => (h1 k hk).trans (h2 k hk)
theorem am_fbW {lo hi lo' hi' : Nat} {h h' : am_H} (hl : lo' ≤ lo ∧ hi ≤ hi') (h1 : am_fb lo hi h' h) : am_fb lo' hi' h' h := fun k hk => h1 k (by omega)
def hs0 (N : Nat → Int32) : Int32 := 0 + N 12 * N 8 + N 13 * N 9 + N 14 * N 10 + N 15 * N 11
def hs1 (N : Nat → Int32) : Int32 := 0 + N 16 * (9 - N 8) + N 17 * (9 - N 9) + N 18 * (9 - N 10) + N 19 * (9 - N 11)
def peace (N : Nat → Int32) : Prop := ¬ hs0 N < N 20 ∧ ¬ hs1 N < N 21
def duel (N : Nat → Int32) : Prop := ¬ N 3 < N 4
def snum (N : Nat → Int32) : Int32 := (((0 * 10 + N 8) * 10 + N 9) * 10 + N 10) * 10 + N 11
def drawZ (N : Nat → Int32) : Int32 := N 0 * 1103515245 + 12345
def drawN (N : Nat → Int32) : Nat → Int32 := upd N 0 (drawZ N)
def drawV (N : Nat → Int32) : Int32 := ((drawZ N).toUInt32 >>> (Int32.toUInt32 8 &&& Int32.toUInt32 31)).toInt32
def addN (N : Nat → Int32) (f : Nat) (k s p : Int32) : Nat → Int32 := upd (upd (upd (upd (upd (upd N (22 + 5 * f) k) (23 + 5 * f) s) (24 + 5 * f) p) (25 + 5 * f) 0) (26 + 5 * f) 0) 1 (nI (f + 1))
set_option maxHeartbeats 4000000 in
set_option maxRecDepth 100000 in
theorem g_isFriend {X : List Int32} {d rc rs n : Nat} {Q : am_Q} {b : Nat} {N : Nat → Int32} {tx : List Value} {lk mv : Nat → Int32} {h : am_H} {f : Int32} (F : QR b N tx lk mv h) (k1 : wi f 0 (N 1 - 1) → Q (some (.int 1)) n h) (k0 : ¬ wi f 0 (N 1 - 1) → Q (some (.int 0)) n h) : AW X mX0_isFriend (d + 2) rc rs 0 [some (.ref b), some (.int f)] [] n h Q := by
  refine aw_iload_n (npc := 1) rfl dX0_isFriend_0 rfl ?_
  refine aw_iconst (npc := 2) (v := 0) (by decide) dX0_isFriend_1 rfl ?_
  refine aw_aload_n (npc := 3) rfl dX0_isFriend_2 rfl ?_
  refine aw_get (npc := 6) dX0_isFriend_3 rfl kf_X0_40 F.1 rfl ?_
  refine aw_iconst (npc := 7) (v := 1) (by decide) dX0_isFriend_6 rfl ?_
  refine aw_isub (npc := 8) dX0_isFriend_7 rfl ?_
  refine aw_callSN (npc := 11) (N := mX7_within) (mc := 0) (ms := 0) (A := [.int f, .int 0, .int ((N 1) - 1)]) (S := []) (L0 := [some (.int f), some (.int 0), some (.int ((N 1) - 1))]) dX0_isFriend_8 rfl km_X7_within kk_X0_79 rfl ⟨rfl, by decide⟩ rfl (Nat.le_of_ble_eq_true rfl) (Nat.zero_add _) (Nat.zero_add _) rfl ?_
  refine c_X7_within (fun hw1 => ?_) (fun hw1 => ?_)
  · refine aw_re (S' := [.int 1]) rfl ?_
    refine aw_zret rfl rfl dX0_isFriend_11 ?_
    exact k1 hw1
  · refine aw_re (S' := [.int 0]) rfl ?_
    refine aw_zret rfl rfl dX0_isFriend_11 ?_
    exact k0 hw1
set_option maxHeartbeats 4000000 in
set_option maxRecDepth 100000 in
theorem g_draw {X : List Int32} {d rc rs n : Nat} {Q : am_Q} {b : Nat} {N : Nat → Int32} {tx : List Value} {lk mv : Nat → Int32} {h : am_H} (F : QR b N tx lk mv h) (hq : ∀ h9, QR b (drawN N) tx lk mv h9 → am_fb b (b + 12) h9 h → Q (some (.int (drawV N))) n h9) : AW X mX0_draw (d + 0) rc rs 0 [some (.ref b)] [] n h Q := by
  refine aw_aload_n (npc := 1) rfl dX0_draw_0 rfl ?_
  refine aw_aload_n (npc := 2) rfl dX0_draw_1 rfl ?_
  refine aw_get (npc := 5) dX0_draw_2 rfl kf_X0_37 F.1 rfl ?_
  refine aw_ldc (npc := 7) kc_X0_86 dX0_draw_5 rfl ?_
  refine aw_imul (npc := 8) dX0_draw_7 rfl ?_
  refine aw_sipush (npc := 11) (v := 12345) (by decide) dX0_draw_8 rfl ?_
  refine aw_iadd (npc := 12) dX0_draw_11 rfl ?_
  refine aw_put (npc := 15) dX0_draw_12 rfl kf_X0_37 F.1 (Nat.le_of_ble_eq_true rfl) (am_ok_int _) rfl ?_
  have F1 := qr_z (v := ((N 0) * 1103515245) + 12345) F
  refine aw_aload_n (npc := 16) rfl dX0_draw_15 rfl ?_
  refine aw_get (npc := 19) dX0_draw_16 rfl kf_X0_37 F1.1 rfl ?_
  refine aw_top (y := ((N 0) * 1103515245) + 12345) (pk_us) ?_
  refine aw_bipush (npc := 21) (v := 8) (by decide) dX0_draw_19 rfl ?_
  refine aw_iushr (npc := 22) dX0_draw_21 rfl ?_
  refine aw_iret rfl dX0_draw_22 ?_
  exact hq _ F1 (am_fbU (by omega) am_fb0)
set_option maxHeartbeats 4000000 in
set_option maxRecDepth 100000 in
theorem g_has0 {X : List Int32} {d rc rs n : Nat} {Q : am_Q} {b : Nat} {N : Nat → Int32} {tx : List Value} {lk mv : Nat → Int32} {h : am_H} (F : QR b N tx lk mv h) (hq : Q (some (.int (hs0 N))) n h) : AW X mX0_hasOf (d + 2) rc rs 0 [some (.ref b), some (.int 0), none, none, none] [] n h Q := by
  refine aw_iconst (npc := 1) (v := 0) (by decide) dX0_hasOf_0 rfl ?_
  refine aw_istore_n (npc := 2) (L' := [some (.ref b), some (.int 0), some (.int 0), none, none]) dX0_hasOf_1 rfl (by decide) rfl rfl ?_
  refine aw_iconst (npc := 3) (v := 0) (by decide) dX0_hasOf_2 rfl ?_
  refine aw_istore_n (npc := 4) (L' := [some (.ref b), some (.int 0), some (.int 0), some (.int 0), none]) dX0_hasOf_3 rfl (by decide) rfl rfl ?_
  refine aw_iload_n (npc := 5) rfl dX0_hasOf_4 rfl ?_
  refine aw_iconst (npc := 6) (v := 4) (by decide) dX0_hasOf_5 rfl ?_
  refine aw_icmp_ge (npc := 9) (tgt := 55) dX0_hasOf_6 rfl (by decide) (fun hc => absurd hc (by decide)) (fun _ => ?_)
  refine aw_iload_n (npc := 10) rfl dX0_hasOf_9 rfl ?_
  refine aw_if_ne (npc := 13) (tgt := 22) dX0_hasOf_10 rfl (by decide) (fun hc => absurd (by decide) hc) (fun _ => ?_)
  refine aw_aload_n (npc := 14) rfl dX0_hasOf_13 rfl ?_
  refine aw_get (npc := 17) dX0_hasOf_14 rfl kf_X0_9 F.1 rfl ?_
  refine aw_iload_n (npc := 18) rfl dX0_hasOf_17 rfl ?_
  refine aw_iald (npc := 19) (x := N 8) (j := 0) dX0_hasOf_18 rfl F.2.1 ⟨by decide, by decide⟩ (tl_at (by omega)) ?_
  refine aw_goto (npc := 31) dX0_hasOf_19 (by decide) ?_
  refine aw_istore (npc := 33) (L' := [some (.ref b), some (.int 0), some (.int 0), some (.int 0), some (.int (N 8))]) dX0_hasOf_31 rfl (by decide) rfl rfl ?_
  refine aw_iload_n (npc := 34) rfl dX0_hasOf_33 rfl ?_
  refine aw_aload_n (npc := 35) rfl dX0_hasOf_34 rfl ?_
  refine aw_get (npc := 38) dX0_hasOf_35 rfl kf_X0_15 F.1 rfl ?_
  refine aw_iload_n (npc := 39) rfl dX0_hasOf_38 rfl ?_
  refine aw_iload_n (npc := 40) rfl dX0_hasOf_39 rfl ?_
  refine aw_callSN (npc := 43) (N := mX7_carePlace) (mc := 0) (ms := 0) (A := [.int 0, .int 0]) (S := [.ref (b + 2), .int 0]) (L0 := [some (.int 0), some (.int 0)]) dX0_hasOf_40 rfl km_X7_carePlace kk_X0_87 rfl ⟨rfl, by decide⟩ rfl (Nat.le_of_ble_eq_true rfl) (Nat.zero_add _) (Nat.zero_add _) rfl ?_
  refine aw_iload_n (npc := 1) rfl dX7_carePlace_0 rfl ?_
  refine aw_iconst (npc := 2) (v := 4) (by decide) dX7_carePlace_1 rfl ?_
  refine aw_imulV (npc := 3) (v := 0) dX7_carePlace_2 rfl (by decide) ?_
  refine aw_iload_n (npc := 4) rfl dX7_carePlace_3 rfl ?_
  refine aw_iaddV (npc := 5) (v := 0) dX7_carePlace_4 rfl (by decide) ?_
  refine aw_iret rfl dX7_carePlace_5 ?_
  refine aw_re (S' := [.int 0, .ref (b + 2), .int 0]) rfl ?_
  refine aw_iald (npc := 44) (x := N 12) (j := 0) dX0_hasOf_43 rfl F.2.2.1 ⟨by decide, by decide⟩ (tl_at (by omega)) ?_
  refine aw_iload (npc := 46) rfl dX0_hasOf_44 rfl ?_
  refine aw_imul (npc := 47) dX0_hasOf_46 rfl ?_
  refine aw_iadd (npc := 48) dX0_hasOf_47 rfl ?_
  refine aw_istore_n (npc := 49) (L' := [some (.ref b), some (.int 0), some (.int (0 + ((N 12) * (N 8)))), some (.int 0), some (.int (N 8))]) dX0_hasOf_48 rfl (by decide) rfl rfl ?_
  refine aw_iinc (npc := 52) (v := 1) (L' := [some (.ref b), some (.int 0), some (.int (0 + ((N 12) * (N 8)))), some (.int 1), some (.int (N 8))]) dX0_hasOf_49 rfl rfl (by decide) (by decide) rfl rfl ?_
  refine aw_goto (npc := 4) dX0_hasOf_52 (by decide) ?_
  refine aw_iload_n (npc := 5) rfl dX0_hasOf_4 rfl ?_
  refine aw_iconst (npc := 6) (v := 4) (by decide) dX0_hasOf_5 rfl ?_
  refine aw_icmp_ge (npc := 9) (tgt := 55) dX0_hasOf_6 rfl (by decide) (fun hc => absurd hc (by decide)) (fun _ => ?_)
  refine aw_iload_n (npc := 10) rfl dX0_hasOf_9 rfl ?_
  refine aw_if_ne (npc := 13) (tgt := 22) dX0_hasOf_10 rfl (by decide) (fun hc => absurd (by decide) hc) (fun _ => ?_)
  refine aw_aload_n (npc := 14) rfl dX0_hasOf_13 rfl ?_
  refine aw_get (npc := 17) dX0_hasOf_14 rfl kf_X0_9 F.1 rfl ?_
  refine aw_iload_n (npc := 18) rfl dX0_hasOf_17 rfl ?_
  refine aw_iald (npc := 19) (x := N 9) (j := 1) dX0_hasOf_18 rfl F.2.1 ⟨by decide, by decide⟩ (tl_at (by omega)) ?_
  refine aw_goto (npc := 31) dX0_hasOf_19 (by decide) ?_
  refine aw_istore (npc := 33) (L' := [some (.ref b), some (.int 0), some (.int (0 + ((N 12) * (N 8)))), some (.int 1), some (.int (N 9))]) dX0_hasOf_31 rfl (by decide) rfl rfl ?_
  refine aw_iload_n (npc := 34) rfl dX0_hasOf_33 rfl ?_
  refine aw_aload_n (npc := 35) rfl dX0_hasOf_34 rfl ?_
  refine aw_get (npc := 38) dX0_hasOf_35 rfl kf_X0_15 F.1 rfl ?_
  refine aw_iload_n (npc := 39) rfl dX0_hasOf_38 rfl ?_
  refine aw_iload_n (npc := 40) rfl dX0_hasOf_39 rfl ?_
  refine aw_callSN (npc := 43) (N := mX7_carePlace) (mc := 0) (ms := 0) (A := [.int 0, .int 1]) (S := [.ref (b + 2), .int (0 + ((N 12) * (N 8)))]) (L0 := [some (.int 0), some (.int 1)]) dX0_hasOf_40 rfl km_X7_carePlace kk_X0_87 rfl ⟨rfl, by decide⟩ rfl (Nat.le_of_ble_eq_true rfl) (Nat.zero_add _) (Nat.zero_add _) rfl ?_
  refine aw_iload_n (npc := 1) rfl dX7_carePlace_0 rfl ?_
  refine aw_iconst (npc := 2) (v := 4) (by decide) dX7_carePlace_1 rfl ?_
  refine aw_imulV (npc := 3) (v := 0) dX7_carePlace_2 rfl (by decide) ?_
  refine aw_iload_n (npc := 4) rfl dX7_carePlace_3 rfl ?_
  refine aw_iaddV (npc := 5) (v := 1) dX7_carePlace_4 rfl (by decide) ?_
  refine aw_iret rfl dX7_carePlace_5 ?_
  refine aw_re (S' := [.int 1, .ref (b + 2), .int (0 + ((N 12) * (N 8)))]) rfl ?_
  refine aw_iald (npc := 44) (x := N 13) (j := 1) dX0_hasOf_43 rfl F.2.2.1 ⟨by decide, by decide⟩ (tl_at (by omega)) ?_
  refine aw_iload (npc := 46) rfl dX0_hasOf_44 rfl ?_
  refine aw_imul (npc := 47) dX0_hasOf_46 rfl ?_
  refine aw_iadd (npc := 48) dX0_hasOf_47 rfl ?_
  refine aw_istore_n (npc := 49) (L' := [some (.ref b), some (.int 0), some (.int ((0 + ((N 12) * (N 8))) + ((N 13) * (N 9)))), some (.int 1), some (.int (N 9))]) dX0_hasOf_48 rfl (by decide) rfl rfl ?_
  refine aw_iinc (npc := 52) (v := 2) (L' := [some (.ref b), some (.int 0), some (.int ((0 + ((N 12) * (N 8))) + ((N 13) * (N 9)))), some (.int 2), some (.int (N 9))]) dX0_hasOf_49 rfl rfl (by decide) (by decide) rfl rfl ?_
  refine aw_goto (npc := 4) dX0_hasOf_52 (by decide) ?_
  refine aw_iload_n (npc := 5) rfl dX0_hasOf_4 rfl ?_
  refine aw_iconst (npc := 6) (v := 4) (by decide) dX0_hasOf_5 rfl ?_
  refine aw_icmp_ge (npc := 9) (tgt := 55) dX0_hasOf_6 rfl (by decide) (fun hc => absurd hc (by decide)) (fun _ => ?_)
  refine aw_iload_n (npc := 10) rfl dX0_hasOf_9 rfl ?_
  refine aw_if_ne (npc := 13) (tgt := 22) dX0_hasOf_10 rfl (by decide) (fun hc => absurd (by decide) hc) (fun _ => ?_)
  refine aw_aload_n (npc := 14) rfl dX0_hasOf_13 rfl ?_
  refine aw_get (npc := 17) dX0_hasOf_14 rfl kf_X0_9 F.1 rfl ?_
  refine aw_iload_n (npc := 18) rfl dX0_hasOf_17 rfl ?_
  refine aw_iald (npc := 19) (x := N 10) (j := 2) dX0_hasOf_18 rfl F.2.1 ⟨by decide, by decide⟩ (tl_at (by omega)) ?_
  refine aw_goto (npc := 31) dX0_hasOf_19 (by decide) ?_
  refine aw_istore (npc := 33) (L' := [some (.ref b), some (.int 0), some (.int ((0 + ((N 12) * (N 8))) + ((N 13) * (N 9)))), some (.int 2), some (.int (N 10))]) dX0_hasOf_31 rfl (by decide) rfl rfl ?_
  refine aw_iload_n (npc := 34) rfl dX0_hasOf_33 rfl ?_
  refine aw_aload_n (npc := 35) rfl dX0_hasOf_34 rfl ?_
  refine aw_get (npc := 38) dX0_hasOf_35 rfl kf_X0_15 F.1 rfl ?_
  refine aw_iload_n (npc := 39) rfl dX0_hasOf_38 rfl ?_
  refine aw_iload_n (npc := 40) rfl dX0_hasOf_39 rfl ?_
  refine aw_callSN (npc := 43) (N := mX7_carePlace) (mc := 0) (ms := 0) (A := [.int 0, .int 2]) (S := [.ref (b + 2), .int ((0 + ((N 12) * (N 8))) + ((N 13) * (N 9)))]) (L0 := [some (.int 0), some (.int 2)]) dX0_hasOf_40 rfl km_X7_carePlace kk_X0_87 rfl ⟨rfl, by decide⟩ rfl (Nat.le_of_ble_eq_true rfl) (Nat.zero_add _) (Nat.zero_add _) rfl ?_
  refine aw_iload_n (npc := 1) rfl dX7_carePlace_0 rfl ?_
  refine aw_iconst (npc := 2) (v := 4) (by decide) dX7_carePlace_1 rfl ?_
  refine aw_imulV (npc := 3) (v := 0) dX7_carePlace_2 rfl (by decide) ?_
  refine aw_iload_n (npc := 4) rfl dX7_carePlace_3 rfl ?_
  refine aw_iaddV (npc := 5) (v := 2) dX7_carePlace_4 rfl (by decide) ?_
  refine aw_iret rfl dX7_carePlace_5 ?_
  refine aw_re (S' := [.int 2, .ref (b + 2), .int ((0 + ((N 12) * (N 8))) + ((N 13) * (N 9)))]) rfl ?_
  refine aw_iald (npc := 44) (x := N 14) (j := 2) dX0_hasOf_43 rfl F.2.2.1 ⟨by decide, by decide⟩ (tl_at (by omega)) ?_
  refine aw_iload (npc := 46) rfl dX0_hasOf_44 rfl ?_
  refine aw_imul (npc := 47) dX0_hasOf_46 rfl ?_
  refine aw_iadd (npc := 48) dX0_hasOf_47 rfl ?_
  refine aw_istore_n (npc := 49) (L' := [some (.ref b), some (.int 0), some (.int (((0 + ((N 12) * (N 8))) + ((N 13) * (N 9))) + ((N 14) * (N 10)))), some (.int 2), some (.int (N 10))]) dX0_hasOf_48 rfl (by decide) rfl rfl ?_
  refine aw_iinc (npc := 52) (v := 3) (L' := [some (.ref b), some (.int 0), some (.int (((0 + ((N 12) * (N 8))) + ((N 13) * (N 9))) + ((N 14) * (N 10)))), some (.int 3), some (.int (N 10))]) dX0_hasOf_49 rfl rfl (by decide) (by decide) rfl rfl ?_
  refine aw_goto (npc := 4) dX0_hasOf_52 (by decide) ?_
  refine aw_iload_n (npc := 5) rfl dX0_hasOf_4 rfl ?_
  refine aw_iconst (npc := 6) (v := 4) (by decide) dX0_hasOf_5 rfl ?_
  refine aw_icmp_ge (npc := 9) (tgt := 55) dX0_hasOf_6 rfl (by decide) (fun hc => absurd hc (by decide)) (fun _ => ?_)
  refine aw_iload_n (npc := 10) rfl dX0_hasOf_9 rfl ?_
  refine aw_if_ne (npc := 13) (tgt := 22) dX0_hasOf_10 rfl (by decide) (fun hc => absurd (by decide) hc) (fun _ => ?_)
  refine aw_aload_n (npc := 14) rfl dX0_hasOf_13 rfl ?_
  refine aw_get (npc := 17) dX0_hasOf_14 rfl kf_X0_9 F.1 rfl ?_
  refine aw_iload_n (npc := 18) rfl dX0_hasOf_17 rfl ?_
  refine aw_iald (npc := 19) (x := N 11) (j := 3) dX0_hasOf_18 rfl F.2.1 ⟨by decide, by decide⟩ (tl_at (by omega)) ?_
  refine aw_goto (npc := 31) dX0_hasOf_19 (by decide) ?_
  refine aw_istore (npc := 33) (L' := [some (.ref b), some (.int 0), some (.int (((0 + ((N 12) * (N 8))) + ((N 13) * (N 9))) + ((N 14) * (N 10)))), some (.int 3), some (.int (N 11))]) dX0_hasOf_31 rfl (by decide) rfl rfl ?_
  refine aw_iload_n (npc := 34) rfl dX0_hasOf_33 rfl ?_
  refine aw_aload_n (npc := 35) rfl dX0_hasOf_34 rfl ?_
  refine aw_get (npc := 38) dX0_hasOf_35 rfl kf_X0_15 F.1 rfl ?_
  refine aw_iload_n (npc := 39) rfl dX0_hasOf_38 rfl ?_
  refine aw_iload_n (npc := 40) rfl dX0_hasOf_39 rfl ?_
  refine aw_callSN (npc := 43) (N := mX7_carePlace) (mc := 0) (ms := 0) (A := [.int 0, .int 3]) (S := [.ref (b + 2), .int (((0 + ((N 12) * (N 8))) + ((N 13) * (N 9))) + ((N 14) * (N 10)))]) (L0 := [some (.int 0), some (.int 3)]) dX0_hasOf_40 rfl km_X7_carePlace kk_X0_87 rfl ⟨rfl, by decide⟩ rfl (Nat.le_of_ble_eq_true rfl) (Nat.zero_add _) (Nat.zero_add _) rfl ?_
  refine aw_iload_n (npc := 1) rfl dX7_carePlace_0 rfl ?_
  refine aw_iconst (npc := 2) (v := 4) (by decide) dX7_carePlace_1 rfl ?_
  refine aw_imulV (npc := 3) (v := 0) dX7_carePlace_2 rfl (by decide) ?_
  refine aw_iload_n (npc := 4) rfl dX7_carePlace_3 rfl ?_
  refine aw_iaddV (npc := 5) (v := 3) dX7_carePlace_4 rfl (by decide) ?_
  refine aw_iret rfl dX7_carePlace_5 ?_
  refine aw_re (S' := [.int 3, .ref (b + 2), .int (((0 + ((N 12) * (N 8))) + ((N 13) * (N 9))) + ((N 14) * (N 10)))]) rfl ?_
  refine aw_iald (npc := 44) (x := N 15) (j := 3) dX0_hasOf_43 rfl F.2.2.1 ⟨by decide, by decide⟩ (tl_at (by omega)) ?_
  refine aw_iload (npc := 46) rfl dX0_hasOf_44 rfl ?_
  refine aw_imul (npc := 47) dX0_hasOf_46 rfl ?_
  refine aw_iadd (npc := 48) dX0_hasOf_47 rfl ?_
  refine aw_istore_n (npc := 49) (L' := [some (.ref b), some (.int 0), some (.int ((((0 + ((N 12) * (N 8))) + ((N 13) * (N 9))) + ((N 14) * (N 10))) + ((N 15) * (N 11)))), some (.int 3), some (.int (N 11))]) dX0_hasOf_48 rfl (by decide) rfl rfl ?_
  refine aw_iinc (npc := 52) (v := 4) (L' := [some (.ref b), some (.int 0), some (.int ((((0 + ((N 12) * (N 8))) + ((N 13) * (N 9))) + ((N 14) * (N 10))) + ((N 15) * (N 11)))), some (.int 4), some (.int (N 11))]) dX0_hasOf_49 rfl rfl (by decide) (by decide) rfl rfl ?_
  refine aw_goto (npc := 4) dX0_hasOf_52 (by decide) ?_
  refine aw_iload_n (npc := 5) rfl dX0_hasOf_4 rfl ?_
  refine aw_iconst (npc := 6) (v := 4) (by decide) dX0_hasOf_5 rfl ?_
  refine aw_icmp_ge (npc := 9) (tgt := 55) dX0_hasOf_6 rfl (by decide) (fun _ => ?_) (fun hc => absurd (by decide) hc)
  refine aw_iload_n (npc := 56) rfl dX0_hasOf_55 rfl ?_
  refine aw_iret rfl dX0_hasOf_56 ?_
  exact hq
set_option maxHeartbeats 4000000 in
set_option maxRecDepth 100000 in
theorem g_has1 {X : List Int32} {d rc rs n : Nat} {Q : am_Q} {b : Nat} {N : Nat → Int32} {tx : List Value} {lk mv : Nat → Int32} {h : am_H} (F : QR b N tx lk mv h) (hq : Q (some (.int (hs1 N))) n h) : AW X mX0_hasOf (d + 2) rc rs 0 [some (.ref b), some (.int 1), none, none, none] [] n h Q := by
  refine aw_iconst (npc := 1) (v := 0) (by decide) dX0_hasOf_0 rfl ?_
  refine aw_istore_n (npc := 2) (L' := [some (.ref b), some (.int 1), some (.int 0), none, none]) dX0_hasOf_1 rfl (by decide) rfl rfl ?_
  refine aw_iconst (npc := 3) (v := 0) (by decide) dX0_hasOf_2 rfl ?_
  refine aw_istore_n (npc := 4) (L' := [some (.ref b), some (.int 1), some (.int 0), some (.int 0), none]) dX0_hasOf_3 rfl (by decide) rfl rfl ?_
  refine aw_iload_n (npc := 5) rfl dX0_hasOf_4 rfl ?_
  refine aw_iconst (npc := 6) (v := 4) (by decide) dX0_hasOf_5 rfl ?_
  refine aw_icmp_ge (npc := 9) (tgt := 55) dX0_hasOf_6 rfl (by decide) (fun hc => absurd hc (by decide)) (fun _ => ?_)
  refine aw_iload_n (npc := 10) rfl dX0_hasOf_9 rfl ?_
  refine aw_if_ne (npc := 13) (tgt := 22) dX0_hasOf_10 rfl (by decide) (fun _ => ?_) (fun hc => absurd hc (by decide))
  refine aw_bipush (npc := 24) (v := 9) (by decide) dX0_hasOf_22 rfl ?_
  refine aw_aload_n (npc := 25) rfl dX0_hasOf_24 rfl ?_
  refine aw_get (npc := 28) dX0_hasOf_25 rfl kf_X0_9 F.1 rfl ?_
  refine aw_iload_n (npc := 29) rfl dX0_hasOf_28 rfl ?_
  refine aw_iald (npc := 30) (x := N 8) (j := 0) dX0_hasOf_29 rfl F.2.1 ⟨by decide, by decide⟩ (tl_at (by omega)) ?_
  refine aw_isub (npc := 31) dX0_hasOf_30 rfl ?_
  refine aw_istore (npc := 33) (L' := [some (.ref b), some (.int 1), some (.int 0), some (.int 0), some (.int (9 - (N 8)))]) dX0_hasOf_31 rfl (by decide) rfl rfl ?_
  refine aw_iload_n (npc := 34) rfl dX0_hasOf_33 rfl ?_
  refine aw_aload_n (npc := 35) rfl dX0_hasOf_34 rfl ?_
  refine aw_get (npc := 38) dX0_hasOf_35 rfl kf_X0_15 F.1 rfl ?_
  refine aw_iload_n (npc := 39) rfl dX0_hasOf_38 rfl ?_
  refine aw_iload_n (npc := 40) rfl dX0_hasOf_39 rfl ?_
  refine aw_callSN (npc := 43) (N := mX7_carePlace) (mc := 0) (ms := 0) (A := [.int 1, .int 0]) (S := [.ref (b + 2), .int 0]) (L0 := [some (.int 1), some (.int 0)]) dX0_hasOf_40 rfl km_X7_carePlace kk_X0_87 rfl ⟨rfl, by decide⟩ rfl (Nat.le_of_ble_eq_true rfl) (Nat.zero_add _) (Nat.zero_add _) rfl ?_
  refine aw_iload_n (npc := 1) rfl dX7_carePlace_0 rfl ?_
  refine aw_iconst (npc := 2) (v := 4) (by decide) dX7_carePlace_1 rfl ?_
  refine aw_imulV (npc := 3) (v := 4) dX7_carePlace_2 rfl (by decide) ?_
  refine aw_iload_n (npc := 4) rfl dX7_carePlace_3 rfl ?_
  refine aw_iaddV (npc := 5) (v := 4) dX7_carePlace_4 rfl (by decide) ?_
  refine aw_iret rfl dX7_carePlace_5 ?_
  refine aw_re (S' := [.int 4, .ref (b + 2), .int 0]) rfl ?_
  refine aw_iald (npc := 44) (x := N 16) (j := 4) dX0_hasOf_43 rfl F.2.2.1 ⟨by decide, by decide⟩ (tl_at (by omega)) ?_
  refine aw_iload (npc := 46) rfl dX0_hasOf_44 rfl ?_
  refine aw_imul (npc := 47) dX0_hasOf_46 rfl ?_
  refine aw_iadd (npc := 48) dX0_hasOf_47 rfl ?_
  refine aw_istore_n (npc := 49) (L' := [some (.ref b), some (.int 1), some (.int (0 + ((N 16) * (9 - (N 8))))), some (.int 0), some (.int (9 - (N 8)))]) dX0_hasOf_48 rfl (by decide) rfl rfl ?_
  refine aw_iinc (npc := 52) (v := 1) (L' := [some (.ref b), some (.int 1), some (.int (0 + ((N 16) * (9 - (N 8))))), some (.int 1), some (.int (9 - (N 8)))]) dX0_hasOf_49 rfl rfl (by decide) (by decide) rfl rfl ?_
  refine aw_goto (npc := 4) dX0_hasOf_52 (by decide) ?_
  refine aw_iload_n (npc := 5) rfl dX0_hasOf_4 rfl ?_
  refine aw_iconst (npc := 6) (v := 4) (by decide) dX0_hasOf_5 rfl ?_
  refine aw_icmp_ge (npc := 9) (tgt := 55) dX0_hasOf_6 rfl (by decide) (fun hc => absurd hc (by decide)) (fun _ => ?_)
  refine aw_iload_n (npc := 10) rfl dX0_hasOf_9 rfl ?_
  refine aw_if_ne (npc := 13) (tgt := 22) dX0_hasOf_10 rfl (by decide) (fun _ => ?_) (fun hc => absurd hc (by decide))
  refine aw_bipush (npc := 24) (v := 9) (by decide) dX0_hasOf_22 rfl ?_
  refine aw_aload_n (npc := 25) rfl dX0_hasOf_24 rfl ?_
  refine aw_get (npc := 28) dX0_hasOf_25 rfl kf_X0_9 F.1 rfl ?_
  refine aw_iload_n (npc := 29) rfl dX0_hasOf_28 rfl ?_
  refine aw_iald (npc := 30) (x := N 9) (j := 1) dX0_hasOf_29 rfl F.2.1 ⟨by decide, by decide⟩ (tl_at (by omega)) ?_
  refine aw_isub (npc := 31) dX0_hasOf_30 rfl ?_
  refine aw_istore (npc := 33) (L' := [some (.ref b), some (.int 1), some (.int (0 + ((N 16) * (9 - (N 8))))), some (.int 1), some (.int (9 - (N 9)))]) dX0_hasOf_31 rfl (by decide) rfl rfl ?_
  refine aw_iload_n (npc := 34) rfl dX0_hasOf_33 rfl ?_
  refine aw_aload_n (npc := 35) rfl dX0_hasOf_34 rfl ?_
  refine aw_get (npc := 38) dX0_hasOf_35 rfl kf_X0_15 F.1 rfl ?_
  refine aw_iload_n (npc := 39) rfl dX0_hasOf_38 rfl ?_
  refine aw_iload_n (npc := 40) rfl dX0_hasOf_39 rfl ?_
  refine aw_callSN (npc := 43) (N := mX7_carePlace) (mc := 0) (ms := 0) (A := [.int 1, .int 1]) (S := [.ref (b + 2), .int (0 + ((N 16) * (9 - (N 8))))]) (L0 := [some (.int 1), some (.int 1)]) dX0_hasOf_40 rfl km_X7_carePlace kk_X0_87 rfl ⟨rfl, by decide⟩ rfl (Nat.le_of_ble_eq_true rfl) (Nat.zero_add _) (Nat.zero_add _) rfl ?_
  refine aw_iload_n (npc := 1) rfl dX7_carePlace_0 rfl ?_
  refine aw_iconst (npc := 2) (v := 4) (by decide) dX7_carePlace_1 rfl ?_
  refine aw_imulV (npc := 3) (v := 4) dX7_carePlace_2 rfl (by decide) ?_
  refine aw_iload_n (npc := 4) rfl dX7_carePlace_3 rfl ?_
  refine aw_iaddV (npc := 5) (v := 5) dX7_carePlace_4 rfl (by decide) ?_
  refine aw_iret rfl dX7_carePlace_5 ?_
  refine aw_re (S' := [.int 5, .ref (b + 2), .int (0 + ((N 16) * (9 - (N 8))))]) rfl ?_
  refine aw_iald (npc := 44) (x := N 17) (j := 5) dX0_hasOf_43 rfl F.2.2.1 ⟨by decide, by decide⟩ (tl_at (by omega)) ?_
  refine aw_iload (npc := 46) rfl dX0_hasOf_44 rfl ?_
  refine aw_imul (npc := 47) dX0_hasOf_46 rfl ?_
  refine aw_iadd (npc := 48) dX0_hasOf_47 rfl ?_
  refine aw_istore_n (npc := 49) (L' := [some (.ref b), some (.int 1), some (.int ((0 + ((N 16) * (9 - (N 8)))) + ((N 17) * (9 - (N 9))))), some (.int 1), some (.int (9 - (N 9)))]) dX0_hasOf_48 rfl (by decide) rfl rfl ?_
  refine aw_iinc (npc := 52) (v := 2) (L' := [some (.ref b), some (.int 1), some (.int ((0 + ((N 16) * (9 - (N 8)))) + ((N 17) * (9 - (N 9))))), some (.int 2), some (.int (9 - (N 9)))]) dX0_hasOf_49 rfl rfl (by decide) (by decide) rfl rfl ?_
  refine aw_goto (npc := 4) dX0_hasOf_52 (by decide) ?_
  refine aw_iload_n (npc := 5) rfl dX0_hasOf_4 rfl ?_
  refine aw_iconst (npc := 6) (v := 4) (by decide) dX0_hasOf_5 rfl ?_
  refine aw_icmp_ge (npc := 9) (tgt := 55) dX0_hasOf_6 rfl (by decide) (fun hc => absurd hc (by decide)) (fun _ => ?_)
  refine aw_iload_n (npc := 10) rfl dX0_hasOf_9 rfl ?_
  refine aw_if_ne (npc := 13) (tgt := 22) dX0_hasOf_10 rfl (by decide) (fun _ => ?_) (fun hc => absurd hc (by decide))
  refine aw_bipush (npc := 24) (v := 9) (by decide) dX0_hasOf_22 rfl ?_
  refine aw_aload_n (npc := 25) rfl dX0_hasOf_24 rfl ?_
  refine aw_get (npc := 28) dX0_hasOf_25 rfl kf_X0_9 F.1 rfl ?_
  refine aw_iload_n (npc := 29) rfl dX0_hasOf_28 rfl ?_
  refine aw_iald (npc := 30) (x := N 10) (j := 2) dX0_hasOf_29 rfl F.2.1 ⟨by decide, by decide⟩ (tl_at (by omega)) ?_
  refine aw_isub (npc := 31) dX0_hasOf_30 rfl ?_
  refine aw_istore (npc := 33) (L' := [some (.ref b), some (.int 1), some (.int ((0 + ((N 16) * (9 - (N 8)))) + ((N 17) * (9 - (N 9))))), some (.int 2), some (.int (9 - (N 10)))]) dX0_hasOf_31 rfl (by decide) rfl rfl ?_
  refine aw_iload_n (npc := 34) rfl dX0_hasOf_33 rfl ?_
  refine aw_aload_n (npc := 35) rfl dX0_hasOf_34 rfl ?_
  refine aw_get (npc := 38) dX0_hasOf_35 rfl kf_X0_15 F.1 rfl ?_
  refine aw_iload_n (npc := 39) rfl dX0_hasOf_38 rfl ?_
  refine aw_iload_n (npc := 40) rfl dX0_hasOf_39 rfl ?_
  refine aw_callSN (npc := 43) (N := mX7_carePlace) (mc := 0) (ms := 0) (A := [.int 1, .int 2]) (S := [.ref (b + 2), .int ((0 + ((N 16) * (9 - (N 8)))) + ((N 17) * (9 - (N 9))))]) (L0 := [some (.int 1), some (.int 2)]) dX0_hasOf_40 rfl km_X7_carePlace kk_X0_87 rfl ⟨rfl, by decide⟩ rfl (Nat.le_of_ble_eq_true rfl) (Nat.zero_add _) (Nat.zero_add _) rfl ?_
  refine aw_iload_n (npc := 1) rfl dX7_carePlace_0 rfl ?_
  refine aw_iconst (npc := 2) (v := 4) (by decide) dX7_carePlace_1 rfl ?_
  refine aw_imulV (npc := 3) (v := 4) dX7_carePlace_2 rfl (by decide) ?_
  refine aw_iload_n (npc := 4) rfl dX7_carePlace_3 rfl ?_
  refine aw_iaddV (npc := 5) (v := 6) dX7_carePlace_4 rfl (by decide) ?_
  refine aw_iret rfl dX7_carePlace_5 ?_
  refine aw_re (S' := [.int 6, .ref (b + 2), .int ((0 + ((N 16) * (9 - (N 8)))) + ((N 17) * (9 - (N 9))))]) rfl ?_
  refine aw_iald (npc := 44) (x := N 18) (j := 6) dX0_hasOf_43 rfl F.2.2.1 ⟨by decide, by decide⟩ (tl_at (by omega)) ?_
  refine aw_iload (npc := 46) rfl dX0_hasOf_44 rfl ?_
  refine aw_imul (npc := 47) dX0_hasOf_46 rfl ?_
  refine aw_iadd (npc := 48) dX0_hasOf_47 rfl ?_
  refine aw_istore_n (npc := 49) (L' := [some (.ref b), some (.int 1), some (.int (((0 + ((N 16) * (9 - (N 8)))) + ((N 17) * (9 - (N 9)))) + ((N 18) * (9 - (N 10))))), some (.int 2), some (.int (9 - (N 10)))]) dX0_hasOf_48 rfl (by decide) rfl rfl ?_
  refine aw_iinc (npc := 52) (v := 3) (L' := [some (.ref b), some (.int 1), some (.int (((0 + ((N 16) * (9 - (N 8)))) + ((N 17) * (9 - (N 9)))) + ((N 18) * (9 - (N 10))))), some (.int 3), some (.int (9 - (N 10)))]) dX0_hasOf_49 rfl rfl (by decide) (by decide) rfl rfl ?_
  refine aw_goto (npc := 4) dX0_hasOf_52 (by decide) ?_
  refine aw_iload_n (npc := 5) rfl dX0_hasOf_4 rfl ?_
  refine aw_iconst (npc := 6) (v := 4) (by decide) dX0_hasOf_5 rfl ?_
  refine aw_icmp_ge (npc := 9) (tgt := 55) dX0_hasOf_6 rfl (by decide) (fun hc => absurd hc (by decide)) (fun _ => ?_)
  refine aw_iload_n (npc := 10) rfl dX0_hasOf_9 rfl ?_
  refine aw_if_ne (npc := 13) (tgt := 22) dX0_hasOf_10 rfl (by decide) (fun _ => ?_) (fun hc => absurd hc (by decide))
  refine aw_bipush (npc := 24) (v := 9) (by decide) dX0_hasOf_22 rfl ?_
  refine aw_aload_n (npc := 25) rfl dX0_hasOf_24 rfl ?_
  refine aw_get (npc := 28) dX0_hasOf_25 rfl kf_X0_9 F.1 rfl ?_
  refine aw_iload_n (npc := 29) rfl dX0_hasOf_28 rfl ?_
  refine aw_iald (npc := 30) (x := N 11) (j := 3) dX0_hasOf_29 rfl F.2.1 ⟨by decide, by decide⟩ (tl_at (by omega)) ?_
  refine aw_isub (npc := 31) dX0_hasOf_30 rfl ?_
  refine aw_istore (npc := 33) (L' := [some (.ref b), some (.int 1), some (.int (((0 + ((N 16) * (9 - (N 8)))) + ((N 17) * (9 - (N 9)))) + ((N 18) * (9 - (N 10))))), some (.int 3), some (.int (9 - (N 11)))]) dX0_hasOf_31 rfl (by decide) rfl rfl ?_
  refine aw_iload_n (npc := 34) rfl dX0_hasOf_33 rfl ?_
  refine aw_aload_n (npc := 35) rfl dX0_hasOf_34 rfl ?_
  refine aw_get (npc := 38) dX0_hasOf_35 rfl kf_X0_15 F.1 rfl ?_
  refine aw_iload_n (npc := 39) rfl dX0_hasOf_38 rfl ?_
  refine aw_iload_n (npc := 40) rfl dX0_hasOf_39 rfl ?_
  refine aw_callSN (npc := 43) (N := mX7_carePlace) (mc := 0) (ms := 0) (A := [.int 1, .int 3]) (S := [.ref (b + 2), .int (((0 + ((N 16) * (9 - (N 8)))) + ((N 17) * (9 - (N 9)))) + ((N 18) * (9 - (N 10))))]) (L0 := [some (.int 1), some (.int 3)]) dX0_hasOf_40 rfl km_X7_carePlace kk_X0_87 rfl ⟨rfl, by decide⟩ rfl (Nat.le_of_ble_eq_true rfl) (Nat.zero_add _) (Nat.zero_add _) rfl ?_
  refine aw_iload_n (npc := 1) rfl dX7_carePlace_0 rfl ?_
  refine aw_iconst (npc := 2) (v := 4) (by decide) dX7_carePlace_1 rfl ?_
  refine aw_imulV (npc := 3) (v := 4) dX7_carePlace_2 rfl (by decide) ?_
  refine aw_iload_n (npc := 4) rfl dX7_carePlace_3 rfl ?_
  refine aw_iaddV (npc := 5) (v := 7) dX7_carePlace_4 rfl (by decide) ?_
  refine aw_iret rfl dX7_carePlace_5 ?_
  refine aw_re (S' := [.int 7, .ref (b + 2), .int (((0 + ((N 16) * (9 - (N 8)))) + ((N 17) * (9 - (N 9)))) + ((N 18) * (9 - (N 10))))]) rfl ?_
  refine aw_iald (npc := 44) (x := N 19) (j := 7) dX0_hasOf_43 rfl F.2.2.1 ⟨by decide, by decide⟩ (tl_at (by omega)) ?_
  refine aw_iload (npc := 46) rfl dX0_hasOf_44 rfl ?_
  refine aw_imul (npc := 47) dX0_hasOf_46 rfl ?_
  refine aw_iadd (npc := 48) dX0_hasOf_47 rfl ?_
  refine aw_istore_n (npc := 49) (L' := [some (.ref b), some (.int 1), some (.int ((((0 + ((N 16) * (9 - (N 8)))) + ((N 17) * (9 - (N 9)))) + ((N 18) * (9 - (N 10)))) + ((N 19) * (9 - (N 11))))), some (.int 3), some (.int (9 - (N 11)))]) dX0_hasOf_48 rfl (by decide) rfl rfl ?_
  refine aw_iinc (npc := 52) (v := 4) (L' := [some (.ref b), some (.int 1), some (.int ((((0 + ((N 16) * (9 - (N 8)))) + ((N 17) * (9 - (N 9)))) + ((N 18) * (9 - (N 10)))) + ((N 19) * (9 - (N 11))))), some (.int 4), some (.int (9 - (N 11)))]) dX0_hasOf_49 rfl rfl (by decide) (by decide) rfl rfl ?_
  refine aw_goto (npc := 4) dX0_hasOf_52 (by decide) ?_
  refine aw_iload_n (npc := 5) rfl dX0_hasOf_4 rfl ?_
  refine aw_iconst (npc := 6) (v := 4) (by decide) dX0_hasOf_5 rfl ?_
  refine aw_icmp_ge (npc := 9) (tgt := 55) dX0_hasOf_6 rfl (by decide) (fun _ => ?_) (fun hc => absurd (by decide) hc)
  refine aw_iload_n (npc := 56) rfl dX0_hasOf_55 rfl ?_
  refine aw_iret rfl dX0_hasOf_56 ?_
  exact hq
set_option maxHeartbeats 4000000 in
set_option maxRecDepth 100000 in
theorem g_peace {X : List Int32} {d rc rs n : Nat} {Q : am_Q} {b : Nat} {N : Nat → Int32} {tx : List Value} {lk mv : Nat → Int32} {h : am_H} (F : QR b N tx lk mv h) (k1 : peace N → Q (some (.int 1)) n h) (k0 : ¬ peace N → Q (some (.int 0)) n h) : AW X mX0_isPeace (d + 4) rc rs 0 [some (.ref b)] [] n h Q := by
  refine aw_aload_n (npc := 1) rfl dX0_isPeace_0 rfl ?_
  refine aw_iconst (npc := 2) (v := 0) (by decide) dX0_isPeace_1 rfl ?_
  refine aw_callV (npc := 5) (N := mX0_hasOf) (b := b) (mc := 0) (ms := 0) (A := [.int 0]) (S := []) (L0 := [some (.ref b), some (.int 0), none, none, none]) dX0_isPeace_2 rfl km_X0_hasOf kk_X0_91 F.1 ⟨by decide, rfl⟩ rfl ⟨rfl, by decide⟩ rfl (Nat.le_of_ble_eq_true rfl) (Nat.zero_add _) (Nat.zero_add _) rfl ?_
  refine g_has0 F ?_
  refine aw_re (S' := [.int (hs0 N)]) rfl ?_
  refine aw_aload_n (npc := 6) rfl dX0_isPeace_5 rfl ?_
  refine aw_get (npc := 9) dX0_isPeace_6 rfl kf_X0_18 F.1 rfl ?_
  refine aw_iconst (npc := 10) (v := 0) (by decide) dX0_isPeace_9 rfl ?_
  refine aw_iald (npc := 11) (x := N 20) (j := 0) dX0_isPeace_10 rfl F.2.2.2.1 ⟨by decide, by decide⟩ (tl_at (by omega)) ?_
  refine aw_icmp_lt (npc := 14) (tgt := 32) dX0_isPeace_11 rfl (by decide) (fun hc1 => ?_) (fun hc1 => ?_)
  · refine aw_iconst (npc := 33) (v := 0) (by decide) dX0_isPeace_32 rfl ?_
    refine aw_zret rfl rfl dX0_isPeace_33 ?_
    exact k0 (fun h9 => h9.1 hc1)
  · refine aw_aload_n (npc := 15) rfl dX0_isPeace_14 rfl ?_
    refine aw_iconst (npc := 16) (v := 1) (by decide) dX0_isPeace_15 rfl ?_
    refine aw_callV (npc := 19) (N := mX0_hasOf) (b := b) (mc := 0) (ms := 0) (A := [.int 1]) (S := []) (L0 := [some (.ref b), some (.int 1), none, none, none]) dX0_isPeace_16 rfl km_X0_hasOf kk_X0_91 F.1 ⟨by decide, rfl⟩ rfl ⟨rfl, by decide⟩ rfl (Nat.le_of_ble_eq_true rfl) (Nat.zero_add _) (Nat.zero_add _) rfl ?_
    refine g_has1 F ?_
    refine aw_re (S' := [.int (hs1 N)]) rfl ?_
    refine aw_aload_n (npc := 20) rfl dX0_isPeace_19 rfl ?_
    refine aw_get (npc := 23) dX0_isPeace_20 rfl kf_X0_18 F.1 rfl ?_
    refine aw_iconst (npc := 24) (v := 1) (by decide) dX0_isPeace_23 rfl ?_
    refine aw_iald (npc := 25) (x := N 21) (j := 1) dX0_isPeace_24 rfl F.2.2.2.1 ⟨by decide, by decide⟩ (tl_at (by omega)) ?_
    refine aw_icmp_lt (npc := 28) (tgt := 32) dX0_isPeace_25 rfl (by decide) (fun hc2 => ?_) (fun hc2 => ?_)
    · refine aw_iconst (npc := 33) (v := 0) (by decide) dX0_isPeace_32 rfl ?_
      refine aw_zret rfl rfl dX0_isPeace_33 ?_
      exact k0 (fun h9 => h9.2 hc2)
    · refine aw_iconst (npc := 29) (v := 1) (by decide) dX0_isPeace_28 rfl ?_
      refine aw_goto (npc := 33) dX0_isPeace_29 (by decide) ?_
      refine aw_zret rfl rfl dX0_isPeace_33 ?_
      exact k1 ⟨hc1, hc2⟩
set_option maxHeartbeats 4000000 in
set_option maxRecDepth 100000 in
theorem g_duel {X : List Int32} {d rc rs n : Nat} {Q : am_Q} {b : Nat} {N : Nat → Int32} {tx : List Value} {lk mv : Nat → Int32} {h : am_H} (F : QR b N tx lk mv h) (k1 : duel N → Q (some (.int 1)) n h) (k0 : ¬ duel N → Q (some (.int 0)) n h) : AW X mX0_isDuel (d + 0) rc rs 0 [some (.ref b)] [] n h Q := by
  refine aw_aload_n (npc := 1) rfl dX0_isDuel_0 rfl ?_
  refine aw_get (npc := 4) dX0_isDuel_1 rfl kf_X0_21 F.1 rfl ?_
  refine aw_aload_n (npc := 5) rfl dX0_isDuel_4 rfl ?_
  refine aw_get (npc := 8) dX0_isDuel_5 rfl kf_X0_25 F.1 rfl ?_
  refine aw_icmp_lt (npc := 11) (tgt := 15) dX0_isDuel_8 rfl (by decide) (fun hc1 => ?_) (fun hc1 => ?_)
  · refine aw_iconst (npc := 16) (v := 0) (by decide) dX0_isDuel_15 rfl ?_
    refine aw_zret rfl rfl dX0_isDuel_16 ?_
    exact k0 (fun h9 => h9 hc1)
  · refine aw_iconst (npc := 12) (v := 1) (by decide) dX0_isDuel_11 rfl ?_
    refine aw_goto (npc := 16) dX0_isDuel_12 (by decide) ?_
    refine aw_zret rfl rfl dX0_isDuel_16 ?_
    exact k1 hc1
set_option maxHeartbeats 4000000 in
set_option maxRecDepth 100000 in
theorem g_snum {X : List Int32} {d rc rs n : Nat} {Q : am_Q} {b : Nat} {N : Nat → Int32} {tx : List Value} {lk mv : Nat → Int32} {h : am_H} (F : QR b N tx lk mv h) (hq : Q (some (.int (snum N))) n h) : AW X mX0_standsAsNumber (d + 0) rc rs 0 [some (.ref b), none, none] [] n h Q := by
  refine aw_iconst (npc := 1) (v := 0) (by decide) dX0_standsAsNumber_0 rfl ?_
  refine aw_istore_n (npc := 2) (L' := [some (.ref b), some (.int 0), none]) dX0_standsAsNumber_1 rfl (by decide) rfl rfl ?_
  refine aw_iconst (npc := 3) (v := 0) (by decide) dX0_standsAsNumber_2 rfl ?_
  refine aw_istore_n (npc := 4) (L' := [some (.ref b), some (.int 0), some (.int 0)]) dX0_standsAsNumber_3 rfl (by decide) rfl rfl ?_
  refine aw_iload_n (npc := 5) rfl dX0_standsAsNumber_4 rfl ?_
  refine aw_iconst (npc := 6) (v := 4) (by decide) dX0_standsAsNumber_5 rfl ?_
  refine aw_icmp_ge (npc := 9) (tgt := 27) dX0_standsAsNumber_6 rfl (by decide) (fun hc => absurd hc (by decide)) (fun _ => ?_)
  refine aw_iload_n (npc := 10) rfl dX0_standsAsNumber_9 rfl ?_
  refine aw_bipush (npc := 12) (v := 10) (by decide) dX0_standsAsNumber_10 rfl ?_
  refine aw_imulV (npc := 13) (v := 0) dX0_standsAsNumber_12 rfl (by decide) ?_
  refine aw_aload_n (npc := 14) rfl dX0_standsAsNumber_13 rfl ?_
  refine aw_get (npc := 17) dX0_standsAsNumber_14 rfl kf_X0_9 F.1 rfl ?_
  refine aw_iload_n (npc := 18) rfl dX0_standsAsNumber_17 rfl ?_
  refine aw_iald (npc := 19) (x := N 8) (j := 0) dX0_standsAsNumber_18 rfl F.2.1 ⟨by decide, by decide⟩ (tl_at (by omega)) ?_
  refine aw_iadd (npc := 20) dX0_standsAsNumber_19 rfl ?_
  refine aw_istore_n (npc := 21) (L' := [some (.ref b), some (.int (0 + (N 8))), some (.int 0)]) dX0_standsAsNumber_20 rfl (by decide) rfl rfl ?_
  refine aw_iinc (npc := 24) (v := 1) (L' := [some (.ref b), some (.int (0 + (N 8))), some (.int 1)]) dX0_standsAsNumber_21 rfl rfl (by decide) (by decide) rfl rfl ?_
  refine aw_goto (npc := 4) dX0_standsAsNumber_24 (by decide) ?_
  refine aw_iload_n (npc := 5) rfl dX0_standsAsNumber_4 rfl ?_
  refine aw_iconst (npc := 6) (v := 4) (by decide) dX0_standsAsNumber_5 rfl ?_
  refine aw_icmp_ge (npc := 9) (tgt := 27) dX0_standsAsNumber_6 rfl (by decide) (fun hc => absurd hc (by decide)) (fun _ => ?_)
  refine aw_iload_n (npc := 10) rfl dX0_standsAsNumber_9 rfl ?_
  refine aw_bipush (npc := 12) (v := 10) (by decide) dX0_standsAsNumber_10 rfl ?_
  refine aw_imul (npc := 13) dX0_standsAsNumber_12 rfl ?_
  refine aw_aload_n (npc := 14) rfl dX0_standsAsNumber_13 rfl ?_
  refine aw_get (npc := 17) dX0_standsAsNumber_14 rfl kf_X0_9 F.1 rfl ?_
  refine aw_iload_n (npc := 18) rfl dX0_standsAsNumber_17 rfl ?_
  refine aw_iald (npc := 19) (x := N 9) (j := 1) dX0_standsAsNumber_18 rfl F.2.1 ⟨by decide, by decide⟩ (tl_at (by omega)) ?_
  refine aw_iadd (npc := 20) dX0_standsAsNumber_19 rfl ?_
  refine aw_istore_n (npc := 21) (L' := [some (.ref b), some (.int (((0 + (N 8)) * 10) + (N 9))), some (.int 1)]) dX0_standsAsNumber_20 rfl (by decide) rfl rfl ?_
  refine aw_iinc (npc := 24) (v := 2) (L' := [some (.ref b), some (.int (((0 + (N 8)) * 10) + (N 9))), some (.int 2)]) dX0_standsAsNumber_21 rfl rfl (by decide) (by decide) rfl rfl ?_
  refine aw_goto (npc := 4) dX0_standsAsNumber_24 (by decide) ?_
  refine aw_iload_n (npc := 5) rfl dX0_standsAsNumber_4 rfl ?_
  refine aw_iconst (npc := 6) (v := 4) (by decide) dX0_standsAsNumber_5 rfl ?_
  refine aw_icmp_ge (npc := 9) (tgt := 27) dX0_standsAsNumber_6 rfl (by decide) (fun hc => absurd hc (by decide)) (fun _ => ?_)
  refine aw_iload_n (npc := 10) rfl dX0_standsAsNumber_9 rfl ?_
  refine aw_bipush (npc := 12) (v := 10) (by decide) dX0_standsAsNumber_10 rfl ?_
  refine aw_imul (npc := 13) dX0_standsAsNumber_12 rfl ?_
  refine aw_aload_n (npc := 14) rfl dX0_standsAsNumber_13 rfl ?_
  refine aw_get (npc := 17) dX0_standsAsNumber_14 rfl kf_X0_9 F.1 rfl ?_
  refine aw_iload_n (npc := 18) rfl dX0_standsAsNumber_17 rfl ?_
  refine aw_iald (npc := 19) (x := N 10) (j := 2) dX0_standsAsNumber_18 rfl F.2.1 ⟨by decide, by decide⟩ (tl_at (by omega)) ?_
  refine aw_iadd (npc := 20) dX0_standsAsNumber_19 rfl ?_
  refine aw_istore_n (npc := 21) (L' := [some (.ref b), some (.int (((((0 + (N 8)) * 10) + (N 9)) * 10) + (N 10))), some (.int 2)]) dX0_standsAsNumber_20 rfl (by decide) rfl rfl ?_
  refine aw_iinc (npc := 24) (v := 3) (L' := [some (.ref b), some (.int (((((0 + (N 8)) * 10) + (N 9)) * 10) + (N 10))), some (.int 3)]) dX0_standsAsNumber_21 rfl rfl (by decide) (by decide) rfl rfl ?_
  refine aw_goto (npc := 4) dX0_standsAsNumber_24 (by decide) ?_
  refine aw_iload_n (npc := 5) rfl dX0_standsAsNumber_4 rfl ?_
  refine aw_iconst (npc := 6) (v := 4) (by decide) dX0_standsAsNumber_5 rfl ?_
  refine aw_icmp_ge (npc := 9) (tgt := 27) dX0_standsAsNumber_6 rfl (by decide) (fun hc => absurd hc (by decide)) (fun _ => ?_)
  refine aw_iload_n (npc := 10) rfl dX0_standsAsNumber_9 rfl ?_
  refine aw_bipush (npc := 12) (v := 10) (by decide) dX0_standsAsNumber_10 rfl ?_
  refine aw_imul (npc := 13) dX0_standsAsNumber_12 rfl ?_
  refine aw_aload_n (npc := 14) rfl dX0_standsAsNumber_13 rfl ?_
  refine aw_get (npc := 17) dX0_standsAsNumber_14 rfl kf_X0_9 F.1 rfl ?_
  refine aw_iload_n (npc := 18) rfl dX0_standsAsNumber_17 rfl ?_
  refine aw_iald (npc := 19) (x := N 11) (j := 3) dX0_standsAsNumber_18 rfl F.2.1 ⟨by decide, by decide⟩ (tl_at (by omega)) ?_
  refine aw_iadd (npc := 20) dX0_standsAsNumber_19 rfl ?_
  refine aw_istore_n (npc := 21) (L' := [some (.ref b), some (.int (((((((0 + (N 8)) * 10) + (N 9)) * 10) + (N 10)) * 10) + (N 11))), some (.int 3)]) dX0_standsAsNumber_20 rfl (by decide) rfl rfl ?_
  refine aw_iinc (npc := 24) (v := 4) (L' := [some (.ref b), some (.int (((((((0 + (N 8)) * 10) + (N 9)) * 10) + (N 10)) * 10) + (N 11))), some (.int 4)]) dX0_standsAsNumber_21 rfl rfl (by decide) (by decide) rfl rfl ?_
  refine aw_goto (npc := 4) dX0_standsAsNumber_24 (by decide) ?_
  refine aw_iload_n (npc := 5) rfl dX0_standsAsNumber_4 rfl ?_
  refine aw_iconst (npc := 6) (v := 4) (by decide) dX0_standsAsNumber_5 rfl ?_
  refine aw_icmp_ge (npc := 9) (tgt := 27) dX0_standsAsNumber_6 rfl (by decide) (fun _ => ?_) (fun hc => absurd (by decide) hc)
  refine aw_iload_n (npc := 28) rfl dX0_standsAsNumber_27 rfl ?_
  refine aw_iret rfl dX0_standsAsNumber_28 ?_
  exact hq
set_option maxHeartbeats 4000000 in
set_option maxRecDepth 100000 in
theorem g_addFriend {X : List Int32} {d rc rs n : Nat} {Q : am_Q} {b : Nat} {N : Nat → Int32} {tx : List Value} {lk mv : Nat → Int32} {h : am_H} {f : Nat} {k s p : Int32} (F : QR b N tx lk mv h) (hF : N 1 = nI f) (hf : f < 8) (hq : ∀ h9, QR b (addN N f k s p) tx lk mv h9 → am_fb b (b + 12) h9 h → Q none n h9) : AW X mX0_addFriend (d + 0) rc rs 0 [some (.ref b), some (.int k), some (.int s), some (.int p)] [] n h Q := by
  refine aw_aload_n (npc := 1) rfl dX0_addFriend_0 rfl ?_
  refine aw_get (npc := 4) dX0_addFriend_1 rfl kf_X0_40 F.1 rfl ?_
  refine aw_top (y := nI f) (hF) ?_
  refine aw_bipush (npc := 6) (v := 8) (by decide) dX0_addFriend_4 rfl ?_
  refine aw_icmp_lt (npc := 9) (tgt := 10) dX0_addFriend_6 rfl (by decide) (fun _ => ?_) (fun hc => absurd (nI_lt (a := f) (b := 8) (by omega) (by omega)) hc)
  refine aw_aload_n (npc := 11) rfl dX0_addFriend_10 rfl ?_
  refine aw_get (npc := 14) dX0_addFriend_11 rfl kf_X0_43 F.1 rfl ?_
  refine aw_aload_n (npc := 15) rfl dX0_addFriend_14 rfl ?_
  refine aw_get (npc := 18) dX0_addFriend_15 rfl kf_X0_40 F.1 rfl ?_
  refine aw_top (y := nI f) (hF) ?_
  refine aw_iload_n (npc := 19) rfl dX0_addFriend_18 rfl ?_
  refine aw_iast (npc := 20) (j := f) dX0_addFriend_19 rfl F.2.2.2.2.1 (am_ix_nI (by omega)) (by rw [tl_len]; omega) rfl ?_
  have F2 := qr_kind (j := f) (v := k) F (by omega)
  refine aw_aload_n (npc := 21) rfl dX0_addFriend_20 rfl ?_
  refine aw_get (npc := 24) dX0_addFriend_21 rfl kf_X0_46 F2.1 rfl ?_
  refine aw_aload_n (npc := 25) rfl dX0_addFriend_24 rfl ?_
  refine aw_get (npc := 28) dX0_addFriend_25 rfl kf_X0_40 F2.1 rfl ?_
  refine aw_top (y := N 1) ((pk_un (by omega))) ?_
  refine aw_top (y := nI f) (hF) ?_
  refine aw_iload_n (npc := 29) rfl dX0_addFriend_28 rfl ?_
  refine aw_iast (npc := 30) (j := f) dX0_addFriend_29 rfl F2.2.2.2.2.2.1 (am_ix_nI (by omega)) (by rw [tl_len]; omega) rfl ?_
  have F3 := qr_side (j := f) (v := s) F2 (by omega)
  refine aw_aload_n (npc := 31) rfl dX0_addFriend_30 rfl ?_
  refine aw_get (npc := 34) dX0_addFriend_31 rfl kf_X0_49 F3.1 rfl ?_
  refine aw_aload_n (npc := 35) rfl dX0_addFriend_34 rfl ?_
  refine aw_get (npc := 38) dX0_addFriend_35 rfl kf_X0_40 F3.1 rfl ?_
  refine aw_top (y := N 1) (((pk_un (by omega))).trans (pk_un (by omega))) ?_
  refine aw_top (y := nI f) (hF) ?_
  refine aw_iload_n (npc := 39) rfl dX0_addFriend_38 rfl ?_
  refine aw_iast (npc := 40) (j := f) dX0_addFriend_39 rfl F3.2.2.2.2.2.2.1 (am_ix_nI (by omega)) (by rw [tl_len]; omega) rfl ?_
  have F4 := qr_pride (j := f) (v := p) F3 (by omega)
  refine aw_aload_n (npc := 41) rfl dX0_addFriend_40 rfl ?_
  refine aw_get (npc := 44) dX0_addFriend_41 rfl kf_X0_52 F4.1 rfl ?_
  refine aw_aload_n (npc := 45) rfl dX0_addFriend_44 rfl ?_
  refine aw_get (npc := 48) dX0_addFriend_45 rfl kf_X0_40 F4.1 rfl ?_
  refine aw_top (y := N 1) ((((pk_un (by omega))).trans (pk_un (by omega))).trans (pk_un (by omega))) ?_
  refine aw_top (y := nI f) (hF) ?_
  refine aw_iconst (npc := 49) (v := 0) (by decide) dX0_addFriend_48 rfl ?_
  refine aw_iast (npc := 50) (j := f) dX0_addFriend_49 rfl F4.2.2.2.2.2.2.2.1 (am_ix_nI (by omega)) (by rw [tl_len]; omega) rfl ?_
  have F5 := qr_sent (j := f) (v := 0) F4 (by omega)
  refine aw_aload_n (npc := 51) rfl dX0_addFriend_50 rfl ?_
  refine aw_get (npc := 54) dX0_addFriend_51 rfl kf_X0_55 F5.1 rfl ?_
  refine aw_aload_n (npc := 55) rfl dX0_addFriend_54 rfl ?_
  refine aw_get (npc := 58) dX0_addFriend_55 rfl kf_X0_40 F5.1 rfl ?_
  refine aw_top (y := N 1) (((((pk_un (by omega))).trans (pk_un (by omega))).trans (pk_un (by omega))).trans (pk_un (by omega))) ?_
  refine aw_top (y := nI f) (hF) ?_
  refine aw_iconst (npc := 59) (v := 0) (by decide) dX0_addFriend_58 rfl ?_
  refine aw_iast (npc := 60) (j := f) dX0_addFriend_59 rfl F5.2.2.2.2.2.2.2.2.1 (am_ix_nI (by omega)) (by rw [tl_len]; omega) rfl ?_
  have F6 := qr_yield (j := f) (v := 0) F5 (by omega)
  refine aw_aload_n (npc := 61) rfl dX0_addFriend_60 rfl ?_
  refine aw_dup (npc := 62) rfl dX0_addFriend_61 rfl ?_
  refine aw_get (npc := 65) dX0_addFriend_62 rfl kf_X0_40 F6.1 rfl ?_
  refine aw_top (y := N 1) ((((((pk_un (by omega))).trans (pk_un (by omega))).trans (pk_un (by omega))).trans (pk_un (by omega))).trans (pk_un (by omega))) ?_
  refine aw_top (y := nI f) (hF) ?_
  refine aw_iconst (npc := 66) (v := 1) (by decide) dX0_addFriend_65 rfl ?_
  refine aw_iaddV (npc := 67) (v := nI (f + 1)) dX0_addFriend_66 rfl (nI_1 f) ?_
  refine aw_put (npc := 70) dX0_addFriend_67 rfl kf_X0_40 F6.1 (Nat.le_of_ble_eq_true rfl) (am_ok_int _) rfl ?_
  have F7 := qr_friends (v := nI (f + 1)) F6
  refine aw_vret rfl dX0_addFriend_70 ?_
  exact hq _ F7 (am_fbU (by omega) (am_fbU (by omega) (am_fbU (by omega) (am_fbU (by omega) (am_fbU (by omega) (am_fbU (by omega) am_fb0))))))
def joinC (s a b : Int32) : Int32 := if s = 38 then (if a = 0 then 0 else if b = 0 then 0 else 1) else if s = 42 then a * b else if s = 43 then a + b else if s = 45 then a - b else if s = 47 then (if b = 0 then 0 else a / b) else if s = 60 then (if b ≤ a then 0 else 1) else if s = 61 then (if a = b then 1 else 0) else if s = 62 then (if a ≤ b then 0 else 1) else if s = 124 then (if a = 0 then (if b = 0 then 0 else 1) else 1) else 0
set_option maxHeartbeats 4000000 in
set_option maxRecDepth 100000 in
theorem g_join {X : List Int32} {d rc rs n : Nat} {Q : am_Q} {h : am_H} {s a b : Int32} (hq : Q (some (.int (joinC s a b))) n h) : AW X mX5_join d rc rs 0 [some (.int s), some (.int a), some (.int b)] [] n h Q := by
  refine aw_iload_n (npc := 1) rfl dX5_join_0 rfl ?_
  by_cases hk1 : s = 38
  · subst hk1
    refine aw_lookup (npc := 141) (off := 140) dX5_join_1 rfl (by decide) (by decide) ?_
    refine aw_iload_n (npc := 142) rfl dX5_join_141 rfl ?_
    refine aw_if_eq (npc := 145) (tgt := 153) dX5_join_142 rfl (by decide) (fun hc2 => ?_) (fun hc2 => ?_)
    · refine aw_iconst (npc := 154) (v := 0) (by decide) dX5_join_153 rfl ?_
      refine aw_iret rfl dX5_join_154 ?_
      exact (show joinC 38 a b = 0 by simp [joinC, hc2]) ▸ hq
    · refine aw_iload_n (npc := 146) rfl dX5_join_145 rfl ?_
      refine aw_if_eq (npc := 149) (tgt := 153) dX5_join_146 rfl (by decide) (fun hc3 => ?_) (fun hc3 => ?_)
      · refine aw_iconst (npc := 154) (v := 0) (by decide) dX5_join_153 rfl ?_
        refine aw_iret rfl dX5_join_154 ?_
        exact (show joinC 38 a b = 0 by simp [joinC, hc2, hc3]) ▸ hq
      · refine aw_iconst (npc := 150) (v := 1) (by decide) dX5_join_149 rfl ?_
        refine aw_goto (npc := 154) dX5_join_150 (by decide) ?_
        refine aw_iret rfl dX5_join_154 ?_
        exact (show joinC 38 a b = 1 by simp [joinC, hc2, hc3]) ▸ hq
  by_cases hk4 : s = 42
  · subst hk4
    refine aw_lookup (npc := 92) (off := 91) dX5_join_1 rfl (by decide) (by decide) ?_
    refine aw_iload_n (npc := 93) rfl dX5_join_92 rfl ?_
    refine aw_iload_n (npc := 94) rfl dX5_join_93 rfl ?_
    refine aw_imul (npc := 95) dX5_join_94 rfl ?_
    refine aw_iret rfl dX5_join_95 ?_
    exact (show joinC 42 a b = (a * b) by simp [joinC]) ▸ hq
  by_cases hk5 : s = 43
  · subst hk5
    refine aw_lookup (npc := 84) (off := 83) dX5_join_1 rfl (by decide) (by decide) ?_
    refine aw_iload_n (npc := 85) rfl dX5_join_84 rfl ?_
    refine aw_iload_n (npc := 86) rfl dX5_join_85 rfl ?_
    refine aw_iadd (npc := 87) dX5_join_86 rfl ?_
    refine aw_iret rfl dX5_join_87 ?_
    exact (show joinC 43 a b = (a + b) by simp [joinC]) ▸ hq
  by_cases hk6 : s = 45
  · subst hk6
    refine aw_lookup (npc := 88) (off := 87) dX5_join_1 rfl (by decide) (by decide) ?_
    refine aw_iload_n (npc := 89) rfl dX5_join_88 rfl ?_
    refine aw_iload_n (npc := 90) rfl dX5_join_89 rfl ?_
    refine aw_isub (npc := 91) dX5_join_90 rfl ?_
    refine aw_iret rfl dX5_join_91 ?_
    exact (show joinC 45 a b = (a - b) by simp [joinC]) ▸ hq
  by_cases hk7 : s = 47
  · subst hk7
    refine aw_lookup (npc := 96) (off := 95) dX5_join_1 rfl (by decide) (by decide) ?_
    refine aw_iload_n (npc := 97) rfl dX5_join_96 rfl ?_
    refine aw_if_ne (npc := 100) (tgt := 104) dX5_join_97 rfl (by decide) (fun hc8 => ?_) (fun hc8 => ?_)
    · refine aw_iload_n (npc := 105) rfl dX5_join_104 rfl ?_
      refine aw_iload_n (npc := 106) rfl dX5_join_105 rfl ?_
      refine aw_idiv (npc := 107) hc8 dX5_join_106 rfl ?_
      refine aw_iret rfl dX5_join_107 ?_
      exact (show joinC 47 a b = (a / b) by simp [joinC, hc8]) ▸ hq
    · refine aw_iconst (npc := 101) (v := 0) (by decide) dX5_join_100 rfl ?_
      refine aw_goto (npc := 107) dX5_join_101 (by decide) ?_
      refine aw_iret rfl dX5_join_107 ?_
      exact (show joinC 47 a b = 0 by simp [joinC, hc8]) ▸ hq
  by_cases hk9 : s = 60
  · subst hk9
    refine aw_lookup (npc := 108) (off := 107) dX5_join_1 rfl (by decide) (by decide) ?_
    refine aw_iload_n (npc := 109) rfl dX5_join_108 rfl ?_
    refine aw_iload_n (npc := 110) rfl dX5_join_109 rfl ?_
    refine aw_icmp_ge (npc := 113) (tgt := 117) dX5_join_110 rfl (by decide) (fun hc10 => ?_) (fun hc10 => ?_)
    · refine aw_iconst (npc := 118) (v := 0) (by decide) dX5_join_117 rfl ?_
      refine aw_iret rfl dX5_join_118 ?_
      exact (show joinC 60 a b = 0 by simp [joinC, hc10]) ▸ hq
    · refine aw_iconst (npc := 114) (v := 1) (by decide) dX5_join_113 rfl ?_
      refine aw_goto (npc := 118) dX5_join_114 (by decide) ?_
      refine aw_iret rfl dX5_join_118 ?_
      exact (show joinC 60 a b = 1 by simp [joinC, hc10]) ▸ hq
  by_cases hk11 : s = 61
  · subst hk11
    refine aw_lookup (npc := 119) (off := 118) dX5_join_1 rfl (by decide) (by decide) ?_
    refine aw_iload_n (npc := 120) rfl dX5_join_119 rfl ?_
    refine aw_iload_n (npc := 121) rfl dX5_join_120 rfl ?_
    refine aw_icmp_ne (npc := 124) (tgt := 128) dX5_join_121 rfl (by decide) (fun hc12 => ?_) (fun hc12 => ?_)
    · refine aw_iconst (npc := 129) (v := 0) (by decide) dX5_join_128 rfl ?_
      refine aw_iret rfl dX5_join_129 ?_
      exact (show joinC 61 a b = 0 by simp [joinC, hc12]) ▸ hq
    · refine aw_iconst (npc := 125) (v := 1) (by decide) dX5_join_124 rfl ?_
      refine aw_goto (npc := 129) dX5_join_125 (by decide) ?_
      refine aw_iret rfl dX5_join_129 ?_
      exact (show joinC 61 a b = 1 by simp [joinC, hc12]) ▸ hq
  by_cases hk13 : s = 62
  · subst hk13
    refine aw_lookup (npc := 130) (off := 129) dX5_join_1 rfl (by decide) (by decide) ?_
    refine aw_iload_n (npc := 131) rfl dX5_join_130 rfl ?_
    refine aw_iload_n (npc := 132) rfl dX5_join_131 rfl ?_
    refine aw_icmp_le (npc := 135) (tgt := 139) dX5_join_132 rfl (by decide) (fun hc14 => ?_) (fun hc14 => ?_)
    · refine aw_iconst (npc := 140) (v := 0) (by decide) dX5_join_139 rfl ?_
      refine aw_iret rfl dX5_join_140 ?_
      exact (show joinC 62 a b = 0 by simp [joinC, hc14]) ▸ hq
    · refine aw_iconst (npc := 136) (v := 1) (by decide) dX5_join_135 rfl ?_
      refine aw_goto (npc := 140) dX5_join_136 (by decide) ?_
      refine aw_iret rfl dX5_join_140 ?_
      exact (show joinC 62 a b = 1 by simp [joinC, hc14]) ▸ hq
  by_cases hk15 : s = 124
  · subst hk15
    refine aw_lookup (npc := 155) (off := 154) dX5_join_1 rfl (by decide) (by decide) ?_
    refine aw_iload_n (npc := 156) rfl dX5_join_155 rfl ?_
    refine aw_if_ne (npc := 159) (tgt := 163) dX5_join_156 rfl (by decide) (fun hc16 => ?_) (fun hc16 => ?_)
    · refine aw_iconst (npc := 164) (v := 1) (by decide) dX5_join_163 rfl ?_
      refine aw_goto (npc := 168) dX5_join_164 (by decide) ?_
      refine aw_iret rfl dX5_join_168 ?_
      exact (show joinC 124 a b = 1 by simp [joinC, hc16]) ▸ hq
    · refine aw_iload_n (npc := 160) rfl dX5_join_159 rfl ?_
      refine aw_if_eq (npc := 163) (tgt := 167) dX5_join_160 rfl (by decide) (fun hc17 => ?_) (fun hc17 => ?_)
      · refine aw_iconst (npc := 168) (v := 0) (by decide) dX5_join_167 rfl ?_
        refine aw_iret rfl dX5_join_168 ?_
        exact (show joinC 124 a b = 0 by simp [joinC, hc16, hc17]) ▸ hq
      · refine aw_iconst (npc := 164) (v := 1) (by decide) dX5_join_163 rfl ?_
        refine aw_goto (npc := 168) dX5_join_164 (by decide) ?_
        refine aw_iret rfl dX5_join_168 ?_
        exact (show joinC 124 a b = 1 by simp [joinC, hc16, hc17]) ▸ hq
  refine aw_lookup (npc := 169) (off := 168) dX5_join_1 rfl ((lv_osw (k := 38) hk1 rfl).trans ((lv_osw (k := 42) hk4 rfl).trans ((lv_osw (k := 43) hk5 rfl).trans ((lv_osw (k := 45) hk6 rfl).trans ((lv_osw (k := 47) hk7 rfl).trans ((lv_osw (k := 60) hk9 rfl).trans ((lv_osw (k := 61) hk11 rfl).trans ((lv_osw (k := 62) hk13 rfl).trans ((lv_osw (k := 124) hk15 rfl).trans (rfl)))))))))) (by decide) ?_
  refine aw_iconst (npc := 170) (v := 0) (by decide) dX5_join_169 rfl ?_
  refine aw_iret rfl dX5_join_170 ?_
  exact (show joinC s a b = 0 by simp [joinC, hk1, hk4, hk5, hk6, hk7, hk9, hk11, hk13, hk15]) ▸ hq
def wcS (f1 f2 f3 : Int32) (Ls : Nat) (p : (Nat → Int32) × Nat) (c : Int32) : (Nat → Int32) × Nat :=
  if c < -3 then (if c = -33 then (if p.2 < 1 then p else (upd p.1 (p.2 - 1) (if p.1 (p.2 - 1) = 0 then 1 else 0), p.2)) else if p.2 < 2 then p else (upd p.1 (p.2 - 1 - 1) (joinC (-c) (p.1 (p.2 - 1 - 1)) (p.1 (p.2 - 1))), p.2 - 1))
  else if Ls ≤ p.2 then p else (upd p.1 p.2 (if c < 0 then (if c = -1 then f1 else if c = -2 then f2 else f3) else c), p.2 + 1)
def wcM (f1 f2 f3 : Int32) (Ls : Nat) (cf : Nat → Int32) : Nat → Nat → (Nat → Int32) × Nat → (Nat → Int32) × Nat
  | 0, _, p => p
  | m + 1, i, p => wcM f1 f2 f3 Ls cf m (i + 1) (wcS f1 f2 f3 Ls p (cf i))
set_option maxHeartbeats 4000000 in
set_option maxRecDepth 100000 in
theorem g_workL {X : List Int32} {d rc rs n : Nat} {Q : am_Q} {h : am_H} {a0 a1 a2 lc Ls : Nat} {ky op f1 f2 f3 : Int32} {cf : Nat → Int32} (h02 : a0 ≠ a2) (h12 : a1 ≠ a2) (hl1 : lc < 1000) (hl2 : Ls < 1000) (hl3 : 0 < Ls) (t0 : h a0 = some (.inr (5, [.int ky, .int op, .ref a1, .ref a2]))) (t1 : h a1 = some (.inl (0, tl lc cf))) : ∀ (m i : Nat), i + m = lc → ∀ (sf : Nat → Int32) (top : Nat) (v6 : Option Value), top ≤ Ls → Q (some (.int ((wcM f1 f2 f3 Ls cf m i (sf, top)).1 0))) n (am_up h a2 (.inl (0, tl Ls (wcM f1 f2 f3 Ls cf m i (sf, top)).1))) → AW X mX5_workOut (d + 2) rc rs 6 [some (.ref a0), some (.int f1), some (.int f2), some (.int f3), some (.int (nI top)), some (.int (nI i)), v6] [] n (am_up h a2 (.inl (0, tl Ls sf))) Q := by
  intro m
  induction m with
  | zero =>
    intro i hi sf top v6 htop hq
    obtain rfl : i = lc := by omega
    refine aw_iload (npc := 8) rfl dX5_workOut_6 rfl ?_
    refine aw_aload_n (npc := 9) rfl dX5_workOut_8 rfl ?_
    refine aw_get (npc := 12) dX5_workOut_9 rfl kf_X5_16 (am_ne h02 t0) rfl ?_
    refine aw_alen (npc := 13) (v := nI i) dX5_workOut_12 rfl (am_ne h12 t1) (by rw [tl_len]; rfl) ?_
    refine aw_icmp_ge (npc := 16) (tgt := 175) dX5_workOut_13 rfl (by decide) (fun _ => ?_) (fun hc => absurd (nI_le (Nat.le_refl _) (by omega)) hc)
    refine aw_aload_n (npc := 176) rfl dX5_workOut_175 rfl ?_
    refine aw_get (npc := 179) dX5_workOut_176 rfl kf_X5_26 (am_ne h02 t0) rfl ?_
    refine aw_iconst (npc := 180) (v := 0) (by decide) dX5_workOut_179 rfl ?_
    refine aw_iald (npc := 181) (x := sf 0) (j := 0) dX5_workOut_180 rfl am_eq ⟨by decide, by decide⟩ (tl_at (by omega)) ?_
    refine aw_iret rfl dX5_workOut_181 ?_
    exact hq
  | succ m ih =>
    intro i hi sf top v6 htop hq
    refine aw_iload (npc := 8) rfl dX5_workOut_6 rfl ?_
    refine aw_aload_n (npc := 9) rfl dX5_workOut_8 rfl ?_
    refine aw_get (npc := 12) dX5_workOut_9 rfl kf_X5_16 (am_ne h02 t0) rfl ?_
    refine aw_alen (npc := 13) (v := nI lc) dX5_workOut_12 rfl (am_ne h12 t1) (by rw [tl_len]; rfl) ?_
    refine aw_icmp_ge (npc := 16) (tgt := 175) dX5_workOut_13 rfl (by decide) (fun hc => absurd hc (nI_ge (a := i) (b := lc) (by omega) (by omega))) (fun _ => ?_)
    refine aw_aload_n (npc := 17) rfl dX5_workOut_16 rfl ?_
    refine aw_get (npc := 20) dX5_workOut_17 rfl kf_X5_16 (am_ne h02 t0) rfl ?_
    refine aw_iload (npc := 22) rfl dX5_workOut_20 rfl ?_
    refine aw_iald (npc := 23) (x := cf i) (j := i) dX5_workOut_22 rfl (am_ne h12 t1) (am_ix_nI (by omega)) (tl_at (by omega)) ?_
    refine aw_istore (npc := 25) (L' := [some (.ref a0), some (.int f1), some (.int f2), some (.int f3), some (.int (nI top)), some (.int (nI i)), some (.int (cf i))]) dX5_workOut_23 rfl (by decide) rfl rfl ?_
    refine aw_iload (npc := 27) rfl dX5_workOut_25 rfl ?_
    refine aw_bipush (npc := 29) (v := -3) (by decide) dX5_workOut_27 rfl ?_
    refine aw_icmp_lt (npc := 32) (tgt := 87) dX5_workOut_29 rfl (by decide) (fun hc2 => ?_) (fun hc2 => ?_)
    · refine aw_iload (npc := 89) rfl dX5_workOut_87 rfl ?_
      refine aw_bipush (npc := 91) (v := -33) (by decide) dX5_workOut_89 rfl ?_
      refine aw_icmp_ne (npc := 94) (tgt := 129) dX5_workOut_91 rfl (by decide) (fun hc3 => ?_) (fun hc3 => ?_)
      · refine aw_iload (npc := 131) rfl dX5_workOut_129 rfl ?_
        refine aw_iconst (npc := 132) (v := 2) (by decide) dX5_workOut_131 rfl ?_
        refine aw_icmp_lt (npc := 135) (tgt := 169) dX5_workOut_132 rfl (by decide) (fun hc4 => ?_) (fun hc4 => ?_)
        · have hc4N := (nI_ltI (a := top) (b := 2) (by omega) (by omega)).mp hc4
          refine aw_iinc (npc := 172) (v := nI (i + 1)) (L' := [some (.ref a0), some (.int f1), some (.int f2), some (.int f3), some (.int (nI top)), some (.int (nI (i + 1))), some (.int (cf i))]) dX5_workOut_169 rfl rfl (nI_1 _) (by decide) rfl rfl ?_
          refine aw_goto (npc := 6) dX5_workOut_172 (by decide) ?_
          refine ih (i + 1) (by omega) sf top _ (by omega) ?_
          have e9 : wcS f1 f2 f3 Ls (sf, top) (cf i) = (sf, top) := by simp [wcS, hc2, hc3, hc4, hc4N]
          exact (congrArg (wcM f1 f2 f3 Ls cf m (i + 1)) e9) ▸ hq
        · have hc4N : ¬ top < 2 := fun z => hc4 ((nI_ltI (a := top) (b := 2) (by omega) (by omega)).mpr z)
          refine aw_iinc (npc := 138) (v := nI (top - 1)) (L' := [some (.ref a0), some (.int f1), some (.int f2), some (.int f3), some (.int (nI (top - 1))), some (.int (nI i)), some (.int (cf i))]) dX5_workOut_135 rfl rfl (sb_m1 (by omega)) (by decide) rfl rfl ?_
          refine aw_aload_n (npc := 139) rfl dX5_workOut_138 rfl ?_
          refine aw_get (npc := 142) dX5_workOut_139 rfl kf_X5_26 (am_ne h02 t0) rfl ?_
          refine aw_iload (npc := 144) rfl dX5_workOut_142 rfl ?_
          refine aw_iconst (npc := 145) (v := 1) (by decide) dX5_workOut_144 rfl ?_
          refine aw_isubV (npc := 146) (v := nI ((top - 1) - 1)) dX5_workOut_145 rfl (pk_sub (b := 1) (by omega)) ?_
          refine aw_iload (npc := 148) rfl dX5_workOut_146 rfl ?_
          refine aw_ineg (npc := 149) dX5_workOut_148 rfl ?_
          refine aw_aload_n (npc := 150) rfl dX5_workOut_149 rfl ?_
          refine aw_get (npc := 153) dX5_workOut_150 rfl kf_X5_26 (am_ne h02 t0) rfl ?_
          refine aw_iload (npc := 155) rfl dX5_workOut_153 rfl ?_
          refine aw_iconst (npc := 156) (v := 1) (by decide) dX5_workOut_155 rfl ?_
          refine aw_isubV (npc := 157) (v := nI ((top - 1) - 1)) dX5_workOut_156 rfl (pk_sub (b := 1) (by omega)) ?_
          refine aw_iald (npc := 158) (x := sf ((top - 1) - 1)) (j := ((top - 1) - 1)) dX5_workOut_157 rfl am_eq (am_ix_nI (by omega)) (tl_at (by omega)) ?_
          refine aw_aload_n (npc := 159) rfl dX5_workOut_158 rfl ?_
          refine aw_get (npc := 162) dX5_workOut_159 rfl kf_X5_26 (am_ne h02 t0) rfl ?_
          refine aw_iload (npc := 164) rfl dX5_workOut_162 rfl ?_
          refine aw_iald (npc := 165) (x := sf (top - 1)) (j := (top - 1)) dX5_workOut_164 rfl am_eq (am_ix_nI (by omega)) (tl_at (by omega)) ?_
          refine aw_callS (npc := 168) (N := mX5_join) (mc := 0) (ms := 0) (A := [.int (-(cf i)), .int (sf ((top - 1) - 1)), .int (sf (top - 1))]) (S := [.int (nI ((top - 1) - 1)), .ref a2]) (L0 := [some (.int (-(cf i))), some (.int (sf ((top - 1) - 1))), some (.int (sf (top - 1)))]) dX5_workOut_165 rfl km_X5_join kk_X5_29 rfl ⟨rfl, by decide⟩ rfl (Nat.le_of_ble_eq_true rfl) (Nat.zero_add _) (Nat.zero_add _) rfl ?_
          refine g_join ?_
          refine aw_re (S' := [.int (joinC (-(cf i)) (sf ((top - 1) - 1)) (sf (top - 1))), .int (nI ((top - 1) - 1)), .ref a2]) rfl ?_
          refine aw_iast (npc := 169) (j := ((top - 1) - 1)) dX5_workOut_168 rfl am_eq (am_ix_nI (by omega)) (by rw [tl_len]; omega) (show _ = am_up h a2 (.inl (0, tl Ls (upd sf ((top - 1) - 1) (joinC (-(cf i)) (sf ((top - 1) - 1)) (sf (top - 1)))))) from am_uu.trans (congrArg (fun l : List Int32 => am_up h a2 (.inl (0, l))) tl_set)) ?_
          refine aw_iinc (npc := 172) (v := nI (i + 1)) (L' := [some (.ref a0), some (.int f1), some (.int f2), some (.int f3), some (.int (nI (top - 1))), some (.int (nI (i + 1))), some (.int (cf i))]) dX5_workOut_169 rfl rfl (nI_1 _) (by decide) rfl rfl ?_
          refine aw_goto (npc := 6) dX5_workOut_172 (by decide) ?_
          refine ih (i + 1) (by omega) (upd sf ((top - 1) - 1) (joinC (-(cf i)) (sf ((top - 1) - 1)) (sf (top - 1)))) (top - 1) _ (by omega) ?_
          have e9 : wcS f1 f2 f3 Ls (sf, top) (cf i) = (upd sf ((top - 1) - 1) (joinC (-(cf i)) (sf ((top - 1) - 1)) (sf (top - 1))), (top - 1)) := by simp [wcS, hc2, hc3, hc4, hc4N]
          exact (congrArg (wcM f1 f2 f3 Ls cf m (i + 1)) e9) ▸ hq
      · refine aw_iload (npc := 96) rfl dX5_workOut_94 rfl ?_
        refine aw_iconst (npc := 97) (v := 1) (by decide) dX5_workOut_96 rfl ?_
        refine aw_icmp_lt (npc := 100) (tgt := 169) dX5_workOut_97 rfl (by decide) (fun hc5 => ?_) (fun hc5 => ?_)
        · have hc5N := (nI_ltI (a := top) (b := 1) (by omega) (by omega)).mp hc5
          refine aw_iinc (npc := 172) (v := nI (i + 1)) (L' := [some (.ref a0), some (.int f1), some (.int f2), some (.int f3), some (.int (nI top)), some (.int (nI (i + 1))), some (.int (cf i))]) dX5_workOut_169 rfl rfl (nI_1 _) (by decide) rfl rfl ?_
          refine aw_goto (npc := 6) dX5_workOut_172 (by decide) ?_
          refine ih (i + 1) (by omega) sf top _ (by omega) ?_
          have e9 : wcS f1 f2 f3 Ls (sf, top) (cf i) = (sf, top) := by simp [wcS, hc2, hc3, hc5, hc5N]
          exact (congrArg (wcM f1 f2 f3 Ls cf m (i + 1)) e9) ▸ hq
        · have hc5N : ¬ top < 1 := fun z => hc5 ((nI_ltI (a := top) (b := 1) (by omega) (by omega)).mpr z)
          refine aw_aload_n (npc := 101) rfl dX5_workOut_100 rfl ?_
          refine aw_get (npc := 104) dX5_workOut_101 rfl kf_X5_26 (am_ne h02 t0) rfl ?_
          refine aw_iload (npc := 106) rfl dX5_workOut_104 rfl ?_
          refine aw_iconst (npc := 107) (v := 1) (by decide) dX5_workOut_106 rfl ?_
          refine aw_isubV (npc := 108) (v := nI (top - 1)) dX5_workOut_107 rfl (pk_sub (b := 1) (by omega)) ?_
          refine aw_aload_n (npc := 109) rfl dX5_workOut_108 rfl ?_
          refine aw_get (npc := 112) dX5_workOut_109 rfl kf_X5_26 (am_ne h02 t0) rfl ?_
          refine aw_iload (npc := 114) rfl dX5_workOut_112 rfl ?_
          refine aw_iconst (npc := 115) (v := 1) (by decide) dX5_workOut_114 rfl ?_
          refine aw_isubV (npc := 116) (v := nI (top - 1)) dX5_workOut_115 rfl (pk_sub (b := 1) (by omega)) ?_
          refine aw_iald (npc := 117) (x := sf (top - 1)) (j := (top - 1)) dX5_workOut_116 rfl am_eq (am_ix_nI (by omega)) (tl_at (by omega)) ?_
          refine aw_if_ne (npc := 120) (tgt := 124) dX5_workOut_117 rfl (by decide) (fun hc6 => ?_) (fun hc6 => ?_)
          · refine aw_iconst (npc := 125) (v := 0) (by decide) dX5_workOut_124 rfl ?_
            refine aw_iast (npc := 126) (j := (top - 1)) dX5_workOut_125 rfl am_eq (am_ix_nI (by omega)) (by rw [tl_len]; omega) (show _ = am_up h a2 (.inl (0, tl Ls (upd sf (top - 1) 0))) from am_uu.trans (congrArg (fun l : List Int32 => am_up h a2 (.inl (0, l))) tl_set)) ?_
            refine aw_goto (npc := 169) dX5_workOut_126 (by decide) ?_
            refine aw_iinc (npc := 172) (v := nI (i + 1)) (L' := [some (.ref a0), some (.int f1), some (.int f2), some (.int f3), some (.int (nI top)), some (.int (nI (i + 1))), some (.int (cf i))]) dX5_workOut_169 rfl rfl (nI_1 _) (by decide) rfl rfl ?_
            refine aw_goto (npc := 6) dX5_workOut_172 (by decide) ?_
            refine ih (i + 1) (by omega) (upd sf (top - 1) 0) top _ (by omega) ?_
            have e9 : wcS f1 f2 f3 Ls (sf, top) (cf i) = (upd sf (top - 1) 0, top) := by simp [wcS, hc2, hc3, hc5, hc5N, hc6]
            exact (congrArg (wcM f1 f2 f3 Ls cf m (i + 1)) e9) ▸ hq
          · refine aw_iconst (npc := 121) (v := 1) (by decide) dX5_workOut_120 rfl ?_
            refine aw_goto (npc := 125) dX5_workOut_121 (by decide) ?_
            refine aw_iast (npc := 126) (j := (top - 1)) dX5_workOut_125 rfl am_eq (am_ix_nI (by omega)) (by rw [tl_len]; omega) (show _ = am_up h a2 (.inl (0, tl Ls (upd sf (top - 1) 1))) from am_uu.trans (congrArg (fun l : List Int32 => am_up h a2 (.inl (0, l))) tl_set)) ?_
            refine aw_goto (npc := 169) dX5_workOut_126 (by decide) ?_
            refine aw_iinc (npc := 172) (v := nI (i + 1)) (L' := [some (.ref a0), some (.int f1), some (.int f2), some (.int f3), some (.int (nI top)), some (.int (nI (i + 1))), some (.int (cf i))]) dX5_workOut_169 rfl rfl (nI_1 _) (by decide) rfl rfl ?_
            refine aw_goto (npc := 6) dX5_workOut_172 (by decide) ?_
            refine ih (i + 1) (by omega) (upd sf (top - 1) 1) top _ (by omega) ?_
            have e9 : wcS f1 f2 f3 Ls (sf, top) (cf i) = (upd sf (top - 1) 1, top) := by simp [wcS, hc2, hc3, hc5, hc5N, hc6]
            exact (congrArg (wcM f1 f2 f3 Ls cf m (i + 1)) e9) ▸ hq
    · refine aw_iload (npc := 34) rfl dX5_workOut_32 rfl ?_
      refine aw_aload_n (npc := 35) rfl dX5_workOut_34 rfl ?_
      refine aw_get (npc := 38) dX5_workOut_35 rfl kf_X5_26 (am_ne h02 t0) rfl ?_
      refine aw_alen (npc := 39) (v := nI Ls) dX5_workOut_38 rfl am_eq (by rw [tl_len]; rfl) ?_
      refine aw_icmp_ge (npc := 42) (tgt := 169) dX5_workOut_39 rfl (by decide) (fun hc7 => ?_) (fun hc7 => ?_)
      · have hc7N := (nI_leI (a := Ls) (b := top) (by omega) (by omega)).mp hc7
        refine aw_iinc (npc := 172) (v := nI (i + 1)) (L' := [some (.ref a0), some (.int f1), some (.int f2), some (.int f3), some (.int (nI top)), some (.int (nI (i + 1))), some (.int (cf i))]) dX5_workOut_169 rfl rfl (nI_1 _) (by decide) rfl rfl ?_
        refine aw_goto (npc := 6) dX5_workOut_172 (by decide) ?_
        refine ih (i + 1) (by omega) sf top _ (by omega) ?_
        have e9 : wcS f1 f2 f3 Ls (sf, top) (cf i) = (sf, top) := by simp [wcS, hc2, hc7, hc7N]
        exact (congrArg (wcM f1 f2 f3 Ls cf m (i + 1)) e9) ▸ hq
      · have hc7N : ¬ Ls ≤ top := fun z => hc7 ((nI_leI (a := Ls) (b := top) (by omega) (by omega)).mpr z)
        refine aw_aload_n (npc := 43) rfl dX5_workOut_42 rfl ?_
        refine aw_get (npc := 46) dX5_workOut_43 rfl kf_X5_26 (am_ne h02 t0) rfl ?_
        refine aw_iload (npc := 48) rfl dX5_workOut_46 rfl ?_
        refine aw_iload (npc := 50) rfl dX5_workOut_48 rfl ?_
        refine aw_if_lt (npc := 53) (tgt := 58) dX5_workOut_50 rfl (by decide) (fun hc8 => ?_) (fun hc8 => ?_)
        · refine aw_iload (npc := 60) rfl dX5_workOut_58 rfl ?_
          refine aw_iconst (npc := 61) (v := -1) (by decide) dX5_workOut_60 rfl ?_
          refine aw_icmp_ne (npc := 64) (tgt := 68) dX5_workOut_61 rfl (by decide) (fun hc9 => ?_) (fun hc9 => ?_)
          · refine aw_iload (npc := 70) rfl dX5_workOut_68 rfl ?_
            refine aw_bipush (npc := 72) (v := -2) (by decide) dX5_workOut_70 rfl ?_
            refine aw_icmp_ne (npc := 75) (tgt := 79) dX5_workOut_72 rfl (by decide) (fun hc10 => ?_) (fun hc10 => ?_)
            · refine aw_iload_n (npc := 80) rfl dX5_workOut_79 rfl ?_
              refine aw_iast (npc := 81) (j := top) dX5_workOut_80 rfl am_eq (am_ix_nI (by omega)) (by rw [tl_len]; omega) (show _ = am_up h a2 (.inl (0, tl Ls (upd sf top f3))) from am_uu.trans (congrArg (fun l : List Int32 => am_up h a2 (.inl (0, l))) tl_set)) ?_
              refine aw_iinc (npc := 84) (v := nI (top + 1)) (L' := [some (.ref a0), some (.int f1), some (.int f2), some (.int f3), some (.int (nI (top + 1))), some (.int (nI i)), some (.int (cf i))]) dX5_workOut_81 rfl rfl (nI_1 _) (by decide) rfl rfl ?_
              refine aw_goto (npc := 169) dX5_workOut_84 (by decide) ?_
              refine aw_iinc (npc := 172) (v := nI (i + 1)) (L' := [some (.ref a0), some (.int f1), some (.int f2), some (.int f3), some (.int (nI (top + 1))), some (.int (nI (i + 1))), some (.int (cf i))]) dX5_workOut_169 rfl rfl (nI_1 _) (by decide) rfl rfl ?_
              refine aw_goto (npc := 6) dX5_workOut_172 (by decide) ?_
              refine ih (i + 1) (by omega) (upd sf top f3) (top + 1) _ (by omega) ?_
              have e9 : wcS f1 f2 f3 Ls (sf, top) (cf i) = (upd sf top f3, (top + 1)) := by simp [wcS, hc2, hc7, hc7N, hc8, hc9, hc10]
              exact (congrArg (wcM f1 f2 f3 Ls cf m (i + 1)) e9) ▸ hq
            · refine aw_iload_n (npc := 76) rfl dX5_workOut_75 rfl ?_
              refine aw_goto (npc := 80) dX5_workOut_76 (by decide) ?_
              refine aw_iast (npc := 81) (j := top) dX5_workOut_80 rfl am_eq (am_ix_nI (by omega)) (by rw [tl_len]; omega) (show _ = am_up h a2 (.inl (0, tl Ls (upd sf top f2))) from am_uu.trans (congrArg (fun l : List Int32 => am_up h a2 (.inl (0, l))) tl_set)) ?_
              refine aw_iinc (npc := 84) (v := nI (top + 1)) (L' := [some (.ref a0), some (.int f1), some (.int f2), some (.int f3), some (.int (nI (top + 1))), some (.int (nI i)), some (.int (cf i))]) dX5_workOut_81 rfl rfl (nI_1 _) (by decide) rfl rfl ?_
              refine aw_goto (npc := 169) dX5_workOut_84 (by decide) ?_
              refine aw_iinc (npc := 172) (v := nI (i + 1)) (L' := [some (.ref a0), some (.int f1), some (.int f2), some (.int f3), some (.int (nI (top + 1))), some (.int (nI (i + 1))), some (.int (cf i))]) dX5_workOut_169 rfl rfl (nI_1 _) (by decide) rfl rfl ?_
              refine aw_goto (npc := 6) dX5_workOut_172 (by decide) ?_
              refine ih (i + 1) (by omega) (upd sf top f2) (top + 1) _ (by omega) ?_
              have e9 : wcS f1 f2 f3 Ls (sf, top) (cf i) = (upd sf top f2, (top + 1)) := by simp [wcS, hc2, hc7, hc7N, hc8, hc9, hc10]
              exact (congrArg (wcM f1 f2 f3 Ls cf m (i + 1)) e9) ▸ hq
          · refine aw_iload_n (npc := 65) rfl dX5_workOut_64 rfl ?_
            refine aw_goto (npc := 80) dX5_workOut_65 (by decide) ?_
            refine aw_iast (npc := 81) (j := top) dX5_workOut_80 rfl am_eq (am_ix_nI (by omega)) (by rw [tl_len]; omega) (show _ = am_up h a2 (.inl (0, tl Ls (upd sf top f1))) from am_uu.trans (congrArg (fun l : List Int32 => am_up h a2 (.inl (0, l))) tl_set)) ?_
            refine aw_iinc (npc := 84) (v := nI (top + 1)) (L' := [some (.ref a0), some (.int f1), some (.int f2), some (.int f3), some (.int (nI (top + 1))), some (.int (nI i)), some (.int (cf i))]) dX5_workOut_81 rfl rfl (nI_1 _) (by decide) rfl rfl ?_
            refine aw_goto (npc := 169) dX5_workOut_84 (by decide) ?_
            refine aw_iinc (npc := 172) (v := nI (i + 1)) (L' := [some (.ref a0), some (.int f1), some (.int f2), some (.int f3), some (.int (nI (top + 1))), some (.int (nI (i + 1))), some (.int (cf i))]) dX5_workOut_169 rfl rfl (nI_1 _) (by decide) rfl rfl ?_
            refine aw_goto (npc := 6) dX5_workOut_172 (by decide) ?_
            refine ih (i + 1) (by omega) (upd sf top f1) (top + 1) _ (by omega) ?_
            have e9 : wcS f1 f2 f3 Ls (sf, top) (cf i) = (upd sf top f1, (top + 1)) := by simp [wcS, hc2, hc7, hc7N, hc8, hc9]
            exact (congrArg (wcM f1 f2 f3 Ls cf m (i + 1)) e9) ▸ hq
        · refine aw_iload (npc := 55) rfl dX5_workOut_53 rfl ?_
          refine aw_goto (npc := 80) dX5_workOut_55 (by decide) ?_
          refine aw_iast (npc := 81) (j := top) dX5_workOut_80 rfl am_eq (am_ix_nI (by omega)) (by rw [tl_len]; omega) (show _ = am_up h a2 (.inl (0, tl Ls (upd sf top (cf i)))) from am_uu.trans (congrArg (fun l : List Int32 => am_up h a2 (.inl (0, l))) tl_set)) ?_
          refine aw_iinc (npc := 84) (v := nI (top + 1)) (L' := [some (.ref a0), some (.int f1), some (.int f2), some (.int f3), some (.int (nI (top + 1))), some (.int (nI i)), some (.int (cf i))]) dX5_workOut_81 rfl rfl (nI_1 _) (by decide) rfl rfl ?_
          refine aw_goto (npc := 169) dX5_workOut_84 (by decide) ?_
          refine aw_iinc (npc := 172) (v := nI (i + 1)) (L' := [some (.ref a0), some (.int f1), some (.int f2), some (.int f3), some (.int (nI (top + 1))), some (.int (nI (i + 1))), some (.int (cf i))]) dX5_workOut_169 rfl rfl (nI_1 _) (by decide) rfl rfl ?_
          refine aw_goto (npc := 6) dX5_workOut_172 (by decide) ?_
          refine ih (i + 1) (by omega) (upd sf top (cf i)) (top + 1) _ (by omega) ?_
          have e9 : wcS f1 f2 f3 Ls (sf, top) (cf i) = (upd sf top (cf i), (top + 1)) := by simp [wcS, hc2, hc7, hc7N, hc8]
          exact (congrArg (wcM f1 f2 f3 Ls cf m (i + 1)) e9) ▸ hq
set_option maxHeartbeats 4000000 in
set_option maxRecDepth 100000 in
theorem g_work {X : List Int32} {d rc rs n : Nat} {Q : am_Q} {h : am_H} {a0 a1 a2 lc Ls : Nat} {ky op f1 f2 f3 : Int32} {cf : Nat → Int32} (h02 : a0 ≠ a2) (h12 : a1 ≠ a2) (hl1 : lc < 1000) (hl2 : Ls < 1000) (hl3 : 0 < Ls) (t0 : h a0 = some (.inr (5, [.int ky, .int op, .ref a1, .ref a2]))) (t1 : h a1 = some (.inl (0, tl lc cf))) {sf : Nat → Int32} (t2 : h a2 = some (.inl (0, tl Ls sf))) (hq : ∀ sf9, sf9 = (wcM f1 f2 f3 Ls cf lc 0 (sf, 0)).1 → Q (some (.int (sf9 0))) n (am_up h a2 (.inl (0, tl Ls sf9)))) : AW X mX5_workOut (d + 2) rc rs 0 [some (.ref a0), some (.int f1), some (.int f2), some (.int f3), none, none, none] [] n h Q := by
  refine aw_hp (h' := am_up h a2 (.inl (0, tl Ls sf))) (am_us t2).symm ?_
  refine aw_iconst (npc := 1) (v := 0) (by decide) dX5_workOut_0 rfl ?_
  refine aw_istore (npc := 3) (L' := [some (.ref a0), some (.int f1), some (.int f2), some (.int f3), some (.int 0), none, none]) dX5_workOut_1 rfl (by decide) rfl rfl ?_
  refine aw_iconst (npc := 4) (v := 0) (by decide) dX5_workOut_3 rfl ?_
  refine aw_istore (npc := 6) (L' := [some (.ref a0), some (.int f1), some (.int f2), some (.int f3), some (.int 0), some (.int 0), none]) dX5_workOut_4 rfl (by decide) rfl rfl ?_
  exact g_workL h02 h12 hl1 hl2 hl3 t0 t1 lc 0 (by omega) sf 0 none (by omega) (hq _ rfl)
theorem wi_c0_5 {x : Int32} (h : wi x 0 5) : x = 0 ∨ x = 1 ∨ x = 2 ∨ x = 3 ∨ x = 4 ∨ x = 5 := by
  have h1 : ¬ x.toInt < 0 := fun q => h.1 (Int32.lt_iff_toInt_lt.mpr (by simpa using q))
  have h2 : ¬ 5 < x.toInt := fun q => h.2 (Int32.lt_iff_toInt_lt.mpr (by simpa using q))
  rcases (show x.toInt = 0 ∨ x.toInt = 1 ∨ x.toInt = 2 ∨ x.toInt = 3 ∨ x.toInt = 4 ∨ x.toInt = 5 by omega) with q | q | q | q | q | q
  · exact Or.inl (Int32.toInt_inj.mp (by rw [q]; rfl))
  · exact Or.inr (Or.inl (Int32.toInt_inj.mp (by rw [q]; rfl)))
  · exact Or.inr (Or.inr (Or.inl (Int32.toInt_inj.mp (by rw [q]; rfl))))
  · exact Or.inr (Or.inr (Or.inr (Or.inl (Int32.toInt_inj.mp (by rw [q]; rfl)))))
  · exact Or.inr (Or.inr (Or.inr (Or.inr (Or.inl (Int32.toInt_inj.mp (by rw [q]; rfl))))))
  · exact Or.inr (Or.inr (Or.inr (Or.inr (Or.inr ((Int32.toInt_inj.mp (by rw [q]; rfl)))))))
theorem wi_c0_1 {x : Int32} (h : wi x 0 1) : x = 0 ∨ x = 1 := by
  have h1 : ¬ x.toInt < 0 := fun q => h.1 (Int32.lt_iff_toInt_lt.mpr (by simpa using q))
  have h2 : ¬ 1 < x.toInt := fun q => h.2 (Int32.lt_iff_toInt_lt.mpr (by simpa using q))
  rcases (show x.toInt = 0 ∨ x.toInt = 1 by omega) with q | q
  · exact Or.inl (Int32.toInt_inj.mp (by rw [q]; rfl))
  · exact Or.inr ((Int32.toInt_inj.mp (by rw [q]; rfl)))
theorem wi_c0_3 {x : Int32} (h : wi x 0 3) : x = 0 ∨ x = 1 ∨ x = 2 ∨ x = 3 := by
  have h1 : ¬ x.toInt < 0 := fun q => h.1 (Int32.lt_iff_toInt_lt.mpr (by simpa using q))
  have h2 : ¬ 3 < x.toInt := fun q => h.2 (Int32.lt_iff_toInt_lt.mpr (by simpa using q))
  rcases (show x.toInt = 0 ∨ x.toInt = 1 ∨ x.toInt = 2 ∨ x.toInt = 3 by omega) with q | q | q | q
  · exact Or.inl (Int32.toInt_inj.mp (by rw [q]; rfl))
  · exact Or.inr (Or.inl (Int32.toInt_inj.mp (by rw [q]; rfl)))
  · exact Or.inr (Or.inr (Or.inl (Int32.toInt_inj.mp (by rw [q]; rfl))))
  · exact Or.inr (Or.inr (Or.inr ((Int32.toInt_inj.mp (by rw [q]; rfl)))))
theorem wi_c0_4 {x : Int32} (h : wi x 0 4) : x = 0 ∨ x = 1 ∨ x = 2 ∨ x = 3 ∨ x = 4 := by
  have h1 : ¬ x.toInt < 0 := fun q => h.1 (Int32.lt_iff_toInt_lt.mpr (by simpa using q))
  have h2 : ¬ 4 < x.toInt := fun q => h.2 (Int32.lt_iff_toInt_lt.mpr (by simpa using q))
  rcases (show x.toInt = 0 ∨ x.toInt = 1 ∨ x.toInt = 2 ∨ x.toInt = 3 ∨ x.toInt = 4 by omega) with q | q | q | q | q
  · exact Or.inl (Int32.toInt_inj.mp (by rw [q]; rfl))
  · exact Or.inr (Or.inl (Int32.toInt_inj.mp (by rw [q]; rfl)))
  · exact Or.inr (Or.inr (Or.inl (Int32.toInt_inj.mp (by rw [q]; rfl))))
  · exact Or.inr (Or.inr (Or.inr (Or.inl (Int32.toInt_inj.mp (by rw [q]; rfl)))))
  · exact Or.inr (Or.inr (Or.inr (Or.inr ((Int32.toInt_inj.mp (by rw [q]; rfl))))))
theorem wi_c0_2 {x : Int32} (h : wi x 0 2) : x = 0 ∨ x = 1 ∨ x = 2 := by
  have h1 : ¬ x.toInt < 0 := fun q => h.1 (Int32.lt_iff_toInt_lt.mpr (by simpa using q))
  have h2 : ¬ 2 < x.toInt := fun q => h.2 (Int32.lt_iff_toInt_lt.mpr (by simpa using q))
  rcases (show x.toInt = 0 ∨ x.toInt = 1 ∨ x.toInt = 2 by omega) with q | q | q
  · exact Or.inl (Int32.toInt_inj.mp (by rw [q]; rfl))
  · exact Or.inr (Or.inl (Int32.toInt_inj.mp (by rw [q]; rfl)))
  · exact Or.inr (Or.inr ((Int32.toInt_inj.mp (by rw [q]; rfl))))
theorem wi_ge0 {x hi : Int32} (h : wi x 0 hi) : 0 ≤ x := Int32.not_lt.mp h.1
theorem wi_nI {x lo hi : Int32} {H : Nat} (hH : hi.toInt = H) (hl : 0 ≤ lo) (h : wi x lo hi) : ∃ N : Nat, N ≤ H ∧ x = nI N := by
  refine nI_of2 hH (fun q => h.1 ?_) (Int32.not_lt.mp h.2)
  have a := Int32.lt_iff_toInt_lt.mp q
  have b := Int32.le_iff_toInt_le.mp hl
  exact Int32.lt_iff_toInt_lt.mpr (by have z : (0 : Int32).toInt = 0 := rfl; omega)
theorem wi_idx {x y : Int32} {c : Nat} (hy : y = nI c) (hc : c < 1000) (h : wi x 0 (y - 1)) : ∃ t, t < c ∧ x = nI t := by
  subst hy
  have e : (nI c - 1 : Int32).toInt = (c : Int) - 1 := pk_sub_toInt (a := c) (b := 1) (by omega) (by omega)
  have h1 : ¬ x.toInt < 0 := fun q => h.1 (Int32.lt_iff_toInt_lt.mpr (by simpa using q))
  have h2 : ¬ ((c : Int) - 1) < x.toInt := fun q => h.2 (Int32.lt_iff_toInt_lt.mpr (by rw [e]; exact q))
  refine ⟨x.toInt.toNat, by omega, Int32.toInt_inj.mp ?_⟩
  rw [nI_toInt (by omega)]
  omega
theorem wi_idx' {x y : Int32} {c t : Nat} (hy : y = nI c) (hc : c < 1000) (ht : t < c) (hx : x = nI t) : wi x 0 (y - 1) := by
  subst hy; subst hx
  have e : (nI c - 1 : Int32).toInt = (c : Int) - 1 := pk_sub_toInt (a := c) (b := 1) (by omega) (by omega)
  refine ⟨nI_pos (by omega), fun q => ?_⟩
  have q1 := Int32.lt_iff_toInt_lt.mp q
  rw [e, nI_toInt (by omega)] at q1
  omega
abbrev TB : Type := Nat × (Nat → Int32) × (Nat → Int32) × (Nat → Nat) × (Nat → Nat → Int32) × (Nat → Nat)
def TT (tb : TB) (h : am_H) : Prop := ∀ a, a < tb.1 → h (92 + 3 * a) = some (.inr (5, [.int (tb.2.1 a), .int (tb.2.2.1 a), .ref (93 + 3 * a), .ref (94 + 3 * a)])) ∧ h (93 + 3 * a) = some (.inl (0, tl (tb.2.2.2.1 a) (tb.2.2.2.2.1 a))) ∧ (∃ sf, h (94 + 3 * a) = some (.inl (0, tl (tb.2.2.2.2.2 a) sf))) ∧ tb.2.2.2.1 a < 1000 ∧ tb.2.2.2.2.2 a < 1000 ∧ 0 < tb.2.2.2.2.2 a
theorem tt_frame {tb : TB} {h h' : am_H} (F : TT tb h) (hf : ∀ k, 92 ≤ k → h' k = h k) : TT tb h' := fun a ha => by
  obtain ⟨f0, f1, ⟨sf, f2⟩, f3⟩ := F a ha
  exact ⟨(hf _ (by omega)).trans f0, (hf _ (by omega)).trans f1, ⟨sf, (hf _ (by omega)).trans f2⟩, f3⟩
theorem tt_out {tb : TB} {h : am_H} {k : Nat} {c : am_AC} (hk : k < 92) (F : TT tb h) : TT tb (am_up h k c) := tt_frame F (fun j hj => am_nE (by omega))
theorem tt_stack {tb : TB} {h : am_H} {a : Nat} {sf : Nat → Int32} (F : TT tb h) : TT tb (am_up h (94 + 3 * a) (.inl (0, tl (tb.2.2.2.2.2 a) sf))) := fun q hq => by
  obtain ⟨f0, f1, ⟨sf2, f2⟩, f3⟩ := F q hq
  refine ⟨am_ne (by omega) f0, am_ne (by omega) f1, ?_, f3⟩
  by_cases e : q = a
  · subst e; exact ⟨sf, am_eq⟩
  · exact ⟨sf2, am_ne (by omega) f2⟩
def TXv (T c : Nat) (tx : List Value) : Prop := tx.length = 14 ∧ c ≤ 14 ∧ (∀ (t : Nat) (v : Value), tx[t]? = some v → v = .null ∨ ∃ a, a < T ∧ v = .ref (92 + 3 * a)) ∧ ∀ t : Nat, t < c → ∃ a, a < T ∧ tx[t]? = some (.ref (92 + 3 * a))
def hw (v m : Int32) : Int32 := if 0 ≤ v then (if m < v then m else v) else 0
set_option maxHeartbeats 4000000 in
set_option maxRecDepth 100000 in
theorem g_held {X : List Int32} {d rc rs n : Nat} {Q : am_Q} {h : am_H} {v m : Int32} (hq : Q (some (.int (hw v m))) n h) : AW X mX7_heldWithin (d + 1) rc rs 0 [some (.int v), some (.int m)] [] n h Q := by
  refine aw_iload_n (npc := 1) rfl dX7_heldWithin_0 rfl ?_
  refine aw_if_ge (npc := 4) (tgt := 8) dX7_heldWithin_1 rfl (by decide) (fun hc1 => ?_) (fun hc1 => ?_)
  · refine aw_iload_n (npc := 9) rfl dX7_heldWithin_8 rfl ?_
    refine aw_iload_n (npc := 10) rfl dX7_heldWithin_9 rfl ?_
    refine aw_mmin (npc := 13) dX7_heldWithin_10 rfl kmm_X7_148 kmx_min (Nat.le_of_ble_eq_true rfl) ?_
    refine aw_iret rfl dX7_heldWithin_13 ?_
    exact (show hw v m = (if m < v then m else v) by simp [hw, hc1]) ▸ hq
  · refine aw_iconst (npc := 5) (v := 0) (by decide) dX7_heldWithin_4 rfl ?_
    refine aw_goto (npc := 13) dX7_heldWithin_5 (by decide) ?_
    refine aw_iret rfl dX7_heldWithin_13 ?_
    exact (show hw v m = 0 by simp [hw, hc1]) ▸ hq
set_option maxHeartbeats 4000000 in
set_option maxRecDepth 100000 in
theorem g_textFor0 {X : List Int32} {d rc rs n : Nat} {Q : am_Q} {b : Nat} {N : Nat → Int32} {tx : List Value} {lk mv : Nat → Int32} {h : am_H} {c : Nat} {T : Nat} (F : QR b N tx lk mv h) (hc7 : N 7 = nI c) (hv : TXv T c tx) (k1 : ∀ t a, lk 0 = nI t → t < c → a < T → tx[t]? = some (.ref (92 + 3 * a)) → Q (some (.ref (92 + 3 * a))) n h) (k0 : ¬ wi (lk 0) 0 (N 7 - 1) → Q (some .null) n h) : AW X mX0_textFor (d + 2) rc rs 0 [some (.ref b), some (.int 0), none] [] n h Q := by
  refine aw_aload_n (npc := 1) rfl dX0_textFor_0 rfl ?_
  refine aw_get (npc := 4) dX0_textFor_1 rfl kf_X0_67 F.1 rfl ?_
  refine aw_iload_n (npc := 5) rfl dX0_textFor_4 rfl ?_
  refine aw_iald (npc := 6) (x := lk 0) (j := 0) dX0_textFor_5 rfl F.2.2.2.2.2.2.2.2.2.2.1 ⟨by decide, by decide⟩ (tl_at (by omega)) ?_
  refine aw_istore_n (npc := 7) (L' := [some (.ref b), some (.int 0), some (.int (lk 0))]) dX0_textFor_6 rfl (by decide) rfl rfl ?_
  refine aw_iload_n (npc := 8) rfl dX0_textFor_7 rfl ?_
  refine aw_iconst (npc := 9) (v := 0) (by decide) dX0_textFor_8 rfl ?_
  refine aw_aload_n (npc := 10) rfl dX0_textFor_9 rfl ?_
  refine aw_get (npc := 13) dX0_textFor_10 rfl kf_X0_64 F.1 rfl ?_
  refine aw_iconst (npc := 14) (v := 1) (by decide) dX0_textFor_13 rfl ?_
  refine aw_isub (npc := 15) dX0_textFor_14 rfl ?_
  refine aw_callSN (npc := 18) (N := mX7_within) (mc := 0) (ms := 0) (A := [.int (lk 0), .int 0, .int ((N 7) - 1)]) (S := []) (L0 := [some (.int (lk 0)), some (.int 0), some (.int ((N 7) - 1))]) dX0_textFor_15 rfl km_X7_within kk_X0_79 rfl ⟨rfl, by decide⟩ rfl (Nat.le_of_ble_eq_true rfl) (Nat.zero_add _) (Nat.zero_add _) rfl ?_
  refine c_X7_within (fun hw1 => ?_) (fun hw1 => ?_)
  · refine aw_re (S' := [.int 1]) rfl ?_
    refine aw_if_eq (npc := 21) (tgt := 30) dX0_textFor_18 rfl (by decide) (fun hc => absurd hc (by decide)) (fun _ => ?_)
    obtain ⟨t, ht, hlk⟩ := wi_idx hc7 (by have z := hv.2.1; omega) hw1
    obtain ⟨a, ha, hta⟩ := hv.2.2.2 t ht
    have ht2 := hv.2.1
    refine aw_locs (L' := [some (.ref b), some (.int 0), some (.int (nI t))]) (by rw [hlk]) ?_
    refine aw_aload_n (npc := 22) rfl dX0_textFor_21 rfl ?_
    refine aw_get (npc := 25) dX0_textFor_22 rfl kf_X0_60 F.1 rfl ?_
    refine aw_iload_n (npc := 26) rfl dX0_textFor_25 rfl ?_
    refine aw_aald (npc := 27) (j := t) dX0_textFor_26 rfl (by decide) F.2.2.2.2.2.2.2.2.2.1 (am_ix_nI (by omega)) hta ?_
    refine aw_goto (npc := 31) dX0_textFor_27 (by decide) ?_
    refine aw_aret rfl (Or.inl ⟨_, rfl⟩) dX0_textFor_31 ?_
    exact k1 t a hlk ht ha hta
  · refine aw_re (S' := [.int 0]) rfl ?_
    refine aw_if_eq (npc := 21) (tgt := 30) dX0_textFor_18 rfl (by decide) (fun _ => ?_) (fun hc => absurd (by decide) hc)
    refine aw_null (npc := 31) dX0_textFor_30 rfl ?_
    refine aw_aretN rfl (Or.inl ⟨_, rfl⟩) dX0_textFor_31 ?_
    exact k0 hw1
set_option maxHeartbeats 4000000 in
set_option maxRecDepth 100000 in
theorem g_textFor1 {X : List Int32} {d rc rs n : Nat} {Q : am_Q} {b : Nat} {N : Nat → Int32} {tx : List Value} {lk mv : Nat → Int32} {h : am_H} {c : Nat} {T : Nat} (F : QR b N tx lk mv h) (hc7 : N 7 = nI c) (hv : TXv T c tx) (k1 : ∀ t a, lk 1 = nI t → t < c → a < T → tx[t]? = some (.ref (92 + 3 * a)) → Q (some (.ref (92 + 3 * a))) n h) (k0 : ¬ wi (lk 1) 0 (N 7 - 1) → Q (some .null) n h) : AW X mX0_textFor (d + 2) rc rs 0 [some (.ref b), some (.int 1), none] [] n h Q := by
  refine aw_aload_n (npc := 1) rfl dX0_textFor_0 rfl ?_
  refine aw_get (npc := 4) dX0_textFor_1 rfl kf_X0_67 F.1 rfl ?_
  refine aw_iload_n (npc := 5) rfl dX0_textFor_4 rfl ?_
  refine aw_iald (npc := 6) (x := lk 1) (j := 1) dX0_textFor_5 rfl F.2.2.2.2.2.2.2.2.2.2.1 ⟨by decide, by decide⟩ (tl_at (by omega)) ?_
  refine aw_istore_n (npc := 7) (L' := [some (.ref b), some (.int 1), some (.int (lk 1))]) dX0_textFor_6 rfl (by decide) rfl rfl ?_
  refine aw_iload_n (npc := 8) rfl dX0_textFor_7 rfl ?_
  refine aw_iconst (npc := 9) (v := 0) (by decide) dX0_textFor_8 rfl ?_
  refine aw_aload_n (npc := 10) rfl dX0_textFor_9 rfl ?_
  refine aw_get (npc := 13) dX0_textFor_10 rfl kf_X0_64 F.1 rfl ?_
  refine aw_iconst (npc := 14) (v := 1) (by decide) dX0_textFor_13 rfl ?_
  refine aw_isub (npc := 15) dX0_textFor_14 rfl ?_
  refine aw_callSN (npc := 18) (N := mX7_within) (mc := 0) (ms := 0) (A := [.int (lk 1), .int 0, .int ((N 7) - 1)]) (S := []) (L0 := [some (.int (lk 1)), some (.int 0), some (.int ((N 7) - 1))]) dX0_textFor_15 rfl km_X7_within kk_X0_79 rfl ⟨rfl, by decide⟩ rfl (Nat.le_of_ble_eq_true rfl) (Nat.zero_add _) (Nat.zero_add _) rfl ?_
  refine c_X7_within (fun hw1 => ?_) (fun hw1 => ?_)
  · refine aw_re (S' := [.int 1]) rfl ?_
    refine aw_if_eq (npc := 21) (tgt := 30) dX0_textFor_18 rfl (by decide) (fun hc => absurd hc (by decide)) (fun _ => ?_)
    obtain ⟨t, ht, hlk⟩ := wi_idx hc7 (by have z := hv.2.1; omega) hw1
    obtain ⟨a, ha, hta⟩ := hv.2.2.2 t ht
    have ht2 := hv.2.1
    refine aw_locs (L' := [some (.ref b), some (.int 1), some (.int (nI t))]) (by rw [hlk]) ?_
    refine aw_aload_n (npc := 22) rfl dX0_textFor_21 rfl ?_
    refine aw_get (npc := 25) dX0_textFor_22 rfl kf_X0_60 F.1 rfl ?_
    refine aw_iload_n (npc := 26) rfl dX0_textFor_25 rfl ?_
    refine aw_aald (npc := 27) (j := t) dX0_textFor_26 rfl (by decide) F.2.2.2.2.2.2.2.2.2.1 (am_ix_nI (by omega)) hta ?_
    refine aw_goto (npc := 31) dX0_textFor_27 (by decide) ?_
    refine aw_aret rfl (Or.inl ⟨_, rfl⟩) dX0_textFor_31 ?_
    exact k1 t a hlk ht ha hta
  · refine aw_re (S' := [.int 0]) rfl ?_
    refine aw_if_eq (npc := 21) (tgt := 30) dX0_textFor_18 rfl (by decide) (fun _ => ?_) (fun hc => absurd (by decide) hc)
    refine aw_null (npc := 31) dX0_textFor_30 rfl ?_
    refine aw_aretN rfl (Or.inl ⟨_, rfl⟩) dX0_textFor_31 ?_
    exact k0 hw1
set_option maxHeartbeats 4000000 in
set_option maxRecDepth 100000 in
theorem g_textFor2 {X : List Int32} {d rc rs n : Nat} {Q : am_Q} {b : Nat} {N : Nat → Int32} {tx : List Value} {lk mv : Nat → Int32} {h : am_H} {c : Nat} {T : Nat} (F : QR b N tx lk mv h) (hc7 : N 7 = nI c) (hv : TXv T c tx) (k1 : ∀ t a, lk 2 = nI t → t < c → a < T → tx[t]? = some (.ref (92 + 3 * a)) → Q (some (.ref (92 + 3 * a))) n h) (k0 : ¬ wi (lk 2) 0 (N 7 - 1) → Q (some .null) n h) : AW X mX0_textFor (d + 2) rc rs 0 [some (.ref b), some (.int 2), none] [] n h Q := by
  refine aw_aload_n (npc := 1) rfl dX0_textFor_0 rfl ?_
  refine aw_get (npc := 4) dX0_textFor_1 rfl kf_X0_67 F.1 rfl ?_
  refine aw_iload_n (npc := 5) rfl dX0_textFor_4 rfl ?_
  refine aw_iald (npc := 6) (x := lk 2) (j := 2) dX0_textFor_5 rfl F.2.2.2.2.2.2.2.2.2.2.1 ⟨by decide, by decide⟩ (tl_at (by omega)) ?_
  refine aw_istore_n (npc := 7) (L' := [some (.ref b), some (.int 2), some (.int (lk 2))]) dX0_textFor_6 rfl (by decide) rfl rfl ?_
  refine aw_iload_n (npc := 8) rfl dX0_textFor_7 rfl ?_
  refine aw_iconst (npc := 9) (v := 0) (by decide) dX0_textFor_8 rfl ?_
  refine aw_aload_n (npc := 10) rfl dX0_textFor_9 rfl ?_
  refine aw_get (npc := 13) dX0_textFor_10 rfl kf_X0_64 F.1 rfl ?_
  refine aw_iconst (npc := 14) (v := 1) (by decide) dX0_textFor_13 rfl ?_
  refine aw_isub (npc := 15) dX0_textFor_14 rfl ?_
  refine aw_callSN (npc := 18) (N := mX7_within) (mc := 0) (ms := 0) (A := [.int (lk 2), .int 0, .int ((N 7) - 1)]) (S := []) (L0 := [some (.int (lk 2)), some (.int 0), some (.int ((N 7) - 1))]) dX0_textFor_15 rfl km_X7_within kk_X0_79 rfl ⟨rfl, by decide⟩ rfl (Nat.le_of_ble_eq_true rfl) (Nat.zero_add _) (Nat.zero_add _) rfl ?_
  refine c_X7_within (fun hw1 => ?_) (fun hw1 => ?_)
  · refine aw_re (S' := [.int 1]) rfl ?_
    refine aw_if_eq (npc := 21) (tgt := 30) dX0_textFor_18 rfl (by decide) (fun hc => absurd hc (by decide)) (fun _ => ?_)
    obtain ⟨t, ht, hlk⟩ := wi_idx hc7 (by have z := hv.2.1; omega) hw1
    obtain ⟨a, ha, hta⟩ := hv.2.2.2 t ht
    have ht2 := hv.2.1
    refine aw_locs (L' := [some (.ref b), some (.int 2), some (.int (nI t))]) (by rw [hlk]) ?_
    refine aw_aload_n (npc := 22) rfl dX0_textFor_21 rfl ?_
    refine aw_get (npc := 25) dX0_textFor_22 rfl kf_X0_60 F.1 rfl ?_
    refine aw_iload_n (npc := 26) rfl dX0_textFor_25 rfl ?_
    refine aw_aald (npc := 27) (j := t) dX0_textFor_26 rfl (by decide) F.2.2.2.2.2.2.2.2.2.1 (am_ix_nI (by omega)) hta ?_
    refine aw_goto (npc := 31) dX0_textFor_27 (by decide) ?_
    refine aw_aret rfl (Or.inl ⟨_, rfl⟩) dX0_textFor_31 ?_
    exact k1 t a hlk ht ha hta
  · refine aw_re (S' := [.int 0]) rfl ?_
    refine aw_if_eq (npc := 21) (tgt := 30) dX0_textFor_18 rfl (by decide) (fun _ => ?_) (fun hc => absurd (by decide) hc)
    refine aw_null (npc := 31) dX0_textFor_30 rfl ?_
    refine aw_aretN rfl (Or.inl ⟨_, rfl⟩) dX0_textFor_31 ?_
    exact k0 hw1
def PLr (tb : TB) (tx : List Value) (lk N : Nat → Int32) (f : Nat) (pl : Int32) : Prop := (¬ wi (lk 0) 0 (N 7 - 1) ∧ pl = (N (24 + 5 * f) + N 3) / 2) ∨ ∃ t a sf, wi (lk 0) 0 (N 7 - 1) ∧ lk 0 = nI t ∧ a < tb.1 ∧ tx[t]? = some (.ref (92 + 3 * a)) ∧ pl = hw ((wcM (N (24 + 5 * f)) (N 3) (N (25 + 5 * f)) (tb.2.2.2.2.2 a) (tb.2.2.2.2.1 a) (tb.2.2.2.1 a) 0 (sf, 0)).1 0) 99
def toneK (k hv pl : Int32) : Int32 := if k = 5 then 0 else if k = 3 then (if hv < 40 then (if 99 < pl + 20 then 99 else pl + 20) else 0) else if k = 1 then (if 99 < pl + 20 then 99 else pl + 20) else if k = 2 then pl / 2 else if k = 4 then (if pl / 2 - 10 < 0 then 0 else pl / 2 - 10) else pl
def TNr (tb : TB) (tx : List Value) (lk N : Nat → Int32) (f : Nat) (τ : Int32) : Prop := ∃ pl, PLr tb tx lk N f pl ∧ τ = toneK (N (22 + 5 * f)) (N 3) pl
set_option maxHeartbeats 4000000 in
set_option maxRecDepth 100000 in
theorem g_plain {X : List Int32} {d rc rs n : Nat} {Q : am_Q} {b : Nat} {N : Nat → Int32} {tx : List Value} {lk mv : Nat → Int32} {h : am_H} {c f : Nat} {tb : TB} (F : QR b N tx lk mv h) (G : TT tb h) (hc7 : N 7 = nI c) (hv : TXv tb.1 c tx) (hf : f < 8) (hb : b + 12 ≤ 92) (hq : ∀ pl h9, PLr tb tx lk N f pl → QR b N tx lk mv h9 → TT tb h9 → am_fb 92 (92 + 3 * tb.1) h9 h → Q (some (.int pl)) n h9) : AW X mX0_plainTone (d + 6) rc rs 0 [some (.ref b), some (.int (nI f)), none] [] n h Q := by
  refine aw_aload_n (npc := 1) rfl dX0_plainTone_0 rfl ?_
  refine aw_iconst (npc := 2) (v := 0) (by decide) dX0_plainTone_1 rfl ?_
  refine aw_callV (npc := 5) (N := mX0_textFor) (b := b) (mc := 0) (ms := 0) (A := [.int 0]) (S := []) (L0 := [some (.ref b), some (.int 0), none]) dX0_plainTone_2 rfl km_X0_textFor kk_X0_106 F.1 ⟨by decide, rfl⟩ rfl ⟨rfl, by decide⟩ rfl (Nat.le_of_ble_eq_true rfl) (Nat.zero_add _) (Nat.zero_add _) rfl ?_
  refine g_textFor0 F hc7 hv (fun t a hlk ht ha hta => ?_) (fun hw0 => ?_)
  · refine aw_re (S' := [.ref (92 + 3 * a)]) rfl ?_
    refine aw_astore_n (npc := 6) (L' := [some (.ref b), some (.int (nI f)), some (.ref (92 + 3 * a))]) dX0_plainTone_5 rfl (by decide) rfl rfl ?_
    refine aw_aload_n (npc := 7) rfl dX0_plainTone_6 rfl ?_
    refine aw_ifnonnull (npc := 24) dX0_plainTone_7 (by decide) ?_
    obtain ⟨t0, t1, ⟨sf, t2⟩, t3, t4, t5⟩ := G a ha
    refine aw_aload_n (npc := 25) rfl dX0_plainTone_24 rfl ?_
    refine aw_aload_n (npc := 26) rfl dX0_plainTone_25 rfl ?_
    refine aw_get (npc := 29) dX0_plainTone_26 rfl kf_X0_49 F.1 rfl ?_
    refine aw_iload_n (npc := 30) rfl dX0_plainTone_29 rfl ?_
    refine aw_iald (npc := 31) (x := N (24 + 5 * f)) (j := f) dX0_plainTone_30 rfl F.2.2.2.2.2.2.1 (am_ix_nI (by omega)) (tl_at (by omega)) ?_
    refine aw_aload_n (npc := 32) rfl dX0_plainTone_31 rfl ?_
    refine aw_get (npc := 35) dX0_plainTone_32 rfl kf_X0_21 F.1 rfl ?_
    refine aw_aload_n (npc := 36) rfl dX0_plainTone_35 rfl ?_
    refine aw_get (npc := 39) dX0_plainTone_36 rfl kf_X0_52 F.1 rfl ?_
    refine aw_iload_n (npc := 40) rfl dX0_plainTone_39 rfl ?_
    refine aw_iald (npc := 41) (x := N (25 + 5 * f)) (j := f) dX0_plainTone_40 rfl F.2.2.2.2.2.2.2.1 (am_ix_nI (by omega)) (tl_at (by omega)) ?_
    refine aw_callV (npc := 44) (N := mX5_workOut) (b := (92 + 3 * a)) (mc := 0) (ms := 0) (A := [.int (N (24 + 5 * f)), .int (N 3), .int (N (25 + 5 * f))]) (S := []) (L0 := [some (.ref (92 + 3 * a)), some (.int (N (24 + 5 * f))), some (.int (N 3)), some (.int (N (25 + 5 * f))), none, none, none]) dX0_plainTone_41 rfl km_X5_workOut kk_X0_110 t0 ⟨by decide, rfl⟩ rfl ⟨rfl, by decide⟩ rfl (Nat.le_of_ble_eq_true rfl) (Nat.zero_add _) (Nat.zero_add _) rfl ?_
    refine g_work (h := h) (a0 := 92 + 3 * a) (a1 := 93 + 3 * a) (a2 := 94 + 3 * a) (by omega) (by omega) t3 t4 t5 t0 t1 t2 (fun sf9 hsf => ?_)
    refine aw_re (S' := [.int (sf9 0)]) rfl ?_
    refine aw_bipush (npc := 46) (v := 99) (by decide) dX0_plainTone_44 rfl ?_
    refine aw_callSN (npc := 49) (N := mX7_heldWithin) (mc := 0) (ms := 0) (A := [.int (sf9 0), .int 99]) (S := []) (L0 := [some (.int (sf9 0)), some (.int 99)]) dX0_plainTone_46 rfl km_X7_heldWithin kk_X0_114 rfl ⟨rfl, by decide⟩ rfl (Nat.le_of_ble_eq_true rfl) (Nat.zero_add _) (Nat.zero_add _) rfl ?_
    refine g_held ?_
    refine aw_re (S' := [.int (hw (sf9 0) 99)]) rfl ?_
    refine aw_iret rfl dX0_plainTone_49 ?_
    refine hq _ _ (Or.inr ⟨t, a, sf, wi_idx' hc7 (by have z := hv.2.1; omega) ht hlk, hlk, ha, hta, by rw [← hsf]⟩) (qr_out (by omega) F) (tt_stack G) (am_fbU (by omega) am_fb0)
  · refine aw_re (S' := [.null]) rfl ?_
    refine aw_astore_nN (npc := 6) (L' := [some (.ref b), some (.int (nI f)), some (.null)]) dX0_plainTone_5 rfl (by decide) rfl rfl ?_
    refine aw_aload_nN (npc := 7) rfl dX0_plainTone_6 rfl ?_
    refine aw_ifnonnullN (npc := 10) dX0_plainTone_7 rfl ?_
    refine aw_aload_n (npc := 11) rfl dX0_plainTone_10 rfl ?_
    refine aw_get (npc := 14) dX0_plainTone_11 rfl kf_X0_49 F.1 rfl ?_
    refine aw_iload_n (npc := 15) rfl dX0_plainTone_14 rfl ?_
    refine aw_iald (npc := 16) (x := N (24 + 5 * f)) (j := f) dX0_plainTone_15 rfl F.2.2.2.2.2.2.1 (am_ix_nI (by omega)) (tl_at (by omega)) ?_
    refine aw_aload_n (npc := 17) rfl dX0_plainTone_16 rfl ?_
    refine aw_get (npc := 20) dX0_plainTone_17 rfl kf_X0_21 F.1 rfl ?_
    refine aw_iadd (npc := 21) dX0_plainTone_20 rfl ?_
    refine aw_iconst (npc := 22) (v := 2) (by decide) dX0_plainTone_21 rfl ?_
    refine aw_idiv (npc := 23) (by decide) dX0_plainTone_22 rfl ?_
    refine aw_iret rfl dX0_plainTone_23 ?_
    exact hq _ _ (Or.inl ⟨hw0, rfl⟩) F G am_fb0
theorem pl_ex {tb : TB} {tx : List Value} {lk N : Nat → Int32} {c f : Nat} {h : am_H} (G : TT tb h) (hc7 : N 7 = nI c) (hv : TXv tb.1 c tx) : ∃ pl, PLr tb tx lk N f pl := by
  by_cases hw0 : wi (lk 0) 0 (N 7 - 1)
  · obtain ⟨t, ht, hlk⟩ := wi_idx hc7 (by have z := hv.2.1; omega) hw0
    obtain ⟨a, ha, hta⟩ := hv.2.2.2 t ht
    exact ⟨_, Or.inr ⟨t, a, fun _ => 0, hw0, hlk, ha, hta, rfl⟩⟩
  · exact ⟨_, Or.inl ⟨hw0, rfl⟩⟩
set_option maxHeartbeats 4000000 in
set_option maxRecDepth 100000 in
theorem g_tone {X : List Int32} {d rc rs n : Nat} {Q : am_Q} {b : Nat} {N : Nat → Int32} {tx : List Value} {lk mv : Nat → Int32} {h : am_H} {c f : Nat} {tb : TB} (F : QR b N tx lk mv h) (G : TT tb h) (hc7 : N 7 = nI c) (hv : TXv tb.1 c tx) (hf : f < 8) (hk : wi (N (22 + 5 * f)) 0 5) (hb : b + 12 ≤ 92) (hq : ∀ τ h9, TNr tb tx lk N f τ → QR b N tx lk mv h9 → TT tb h9 → am_fb 92 (92 + 3 * tb.1) h9 h → Q (some (.int τ)) n h9) : AW X mX0_toneOf (d + 8) rc rs 0 [some (.ref b), some (.int (nI f)), none, none] [] n h Q := by
  refine aw_aload_n (npc := 1) rfl dX0_toneOf_0 rfl ?_
  refine aw_get (npc := 4) dX0_toneOf_1 rfl kf_X0_43 F.1 rfl ?_
  refine aw_iload_n (npc := 5) rfl dX0_toneOf_4 rfl ?_
  refine aw_iald (npc := 6) (x := N (22 + 5 * f)) (j := f) dX0_toneOf_5 rfl F.2.2.2.2.1 (am_ix_nI (by omega)) (tl_at (by omega)) ?_
  rcases wi_c0_5 hk with ek | ek | ek | ek | ek | ek
  · refine aw_top (y := 0) ek ?_
    refine aw_istore_n (npc := 7) (L' := [some (.ref b), some (.int (nI f)), some (.int 0), none]) dX0_toneOf_6 rfl (by decide) rfl rfl ?_
    refine aw_iload_n (npc := 8) rfl dX0_toneOf_7 rfl ?_
    refine aw_iconst (npc := 9) (v := 5) (by decide) dX0_toneOf_8 rfl ?_
    refine aw_icmp_eq (npc := 12) (tgt := 26) dX0_toneOf_9 rfl (by decide) (fun hc => absurd hc (by decide)) (fun _ => ?_)
    refine aw_iload_n (npc := 13) rfl dX0_toneOf_12 rfl ?_
    refine aw_iconst (npc := 14) (v := 3) (by decide) dX0_toneOf_13 rfl ?_
    refine aw_icmp_ne (npc := 17) (tgt := 28) dX0_toneOf_14 rfl (by decide) (fun _ => ?_) (fun hc => absurd hc (by decide))
    refine aw_aload_n (npc := 29) rfl dX0_toneOf_28 rfl ?_
    refine aw_iload_n (npc := 30) rfl dX0_toneOf_29 rfl ?_
    refine aw_callV (npc := 33) (N := mX0_plainTone) (b := b) (mc := 0) (ms := 0) (A := [.int (nI f)]) (S := []) (L0 := [some (.ref b), some (.int (nI f)), none]) dX0_toneOf_30 rfl km_X0_plainTone kk_X0_95 F.1 ⟨by decide, rfl⟩ rfl ⟨rfl, by decide⟩ rfl (Nat.le_of_ble_eq_true rfl) (Nat.zero_add _) (Nat.zero_add _) rfl ?_
    refine g_plain F G hc7 hv hf hb (fun pl h9 hpl F9 G9 fz => ?_)
    refine aw_re (S' := [.int pl]) rfl ?_
    refine aw_istore_n (npc := 34) (L' := [some (.ref b), some (.int (nI f)), some (.int 0), some (.int pl)]) dX0_toneOf_33 rfl (by decide) rfl rfl ?_
    refine aw_iload_n (npc := 35) rfl dX0_toneOf_34 rfl ?_
    refine aw_tableOut (npc := 89) dX0_toneOf_35 (by decide) (by decide) ?_
    refine aw_iload_n (npc := 90) rfl dX0_toneOf_89 rfl ?_
    refine aw_iret rfl dX0_toneOf_90 ?_
    exact hq _ _ ⟨pl, hpl, by simp [toneK, ek]⟩ F9 G9 fz
  · refine aw_top (y := 1) ek ?_
    refine aw_istore_n (npc := 7) (L' := [some (.ref b), some (.int (nI f)), some (.int 1), none]) dX0_toneOf_6 rfl (by decide) rfl rfl ?_
    refine aw_iload_n (npc := 8) rfl dX0_toneOf_7 rfl ?_
    refine aw_iconst (npc := 9) (v := 5) (by decide) dX0_toneOf_8 rfl ?_
    refine aw_icmp_eq (npc := 12) (tgt := 26) dX0_toneOf_9 rfl (by decide) (fun hc => absurd hc (by decide)) (fun _ => ?_)
    refine aw_iload_n (npc := 13) rfl dX0_toneOf_12 rfl ?_
    refine aw_iconst (npc := 14) (v := 3) (by decide) dX0_toneOf_13 rfl ?_
    refine aw_icmp_ne (npc := 17) (tgt := 28) dX0_toneOf_14 rfl (by decide) (fun _ => ?_) (fun hc => absurd hc (by decide))
    refine aw_aload_n (npc := 29) rfl dX0_toneOf_28 rfl ?_
    refine aw_iload_n (npc := 30) rfl dX0_toneOf_29 rfl ?_
    refine aw_callV (npc := 33) (N := mX0_plainTone) (b := b) (mc := 0) (ms := 0) (A := [.int (nI f)]) (S := []) (L0 := [some (.ref b), some (.int (nI f)), none]) dX0_toneOf_30 rfl km_X0_plainTone kk_X0_95 F.1 ⟨by decide, rfl⟩ rfl ⟨rfl, by decide⟩ rfl (Nat.le_of_ble_eq_true rfl) (Nat.zero_add _) (Nat.zero_add _) rfl ?_
    refine g_plain F G hc7 hv hf hb (fun pl h9 hpl F9 G9 fz => ?_)
    refine aw_re (S' := [.int pl]) rfl ?_
    refine aw_istore_n (npc := 34) (L' := [some (.ref b), some (.int (nI f)), some (.int 1), some (.int pl)]) dX0_toneOf_33 rfl (by decide) rfl rfl ?_
    refine aw_iload_n (npc := 35) rfl dX0_toneOf_34 rfl ?_
    refine aw_tableIn (npc := 64) dX0_toneOf_35 (by decide) (by decide) rfl (by decide) ?_
    refine aw_iload_n (npc := 65) rfl dX0_toneOf_64 rfl ?_
    refine aw_bipush (npc := 67) (v := 20) (by decide) dX0_toneOf_65 rfl ?_
    refine aw_iadd (npc := 68) dX0_toneOf_67 rfl ?_
    refine aw_bipush (npc := 70) (v := 99) (by decide) dX0_toneOf_68 rfl ?_
    refine aw_mmin (npc := 73) dX0_toneOf_70 rfl kmm_X0_98 kmx_min (Nat.le_of_ble_eq_true rfl) ?_
    refine aw_iret rfl dX0_toneOf_73 ?_
    exact hq _ _ ⟨pl, hpl, by simp [toneK, ek]⟩ F9 G9 fz
  · refine aw_top (y := 2) ek ?_
    refine aw_istore_n (npc := 7) (L' := [some (.ref b), some (.int (nI f)), some (.int 2), none]) dX0_toneOf_6 rfl (by decide) rfl rfl ?_
    refine aw_iload_n (npc := 8) rfl dX0_toneOf_7 rfl ?_
    refine aw_iconst (npc := 9) (v := 5) (by decide) dX0_toneOf_8 rfl ?_
    refine aw_icmp_eq (npc := 12) (tgt := 26) dX0_toneOf_9 rfl (by decide) (fun hc => absurd hc (by decide)) (fun _ => ?_)
    refine aw_iload_n (npc := 13) rfl dX0_toneOf_12 rfl ?_
    refine aw_iconst (npc := 14) (v := 3) (by decide) dX0_toneOf_13 rfl ?_
    refine aw_icmp_ne (npc := 17) (tgt := 28) dX0_toneOf_14 rfl (by decide) (fun _ => ?_) (fun hc => absurd hc (by decide))
    refine aw_aload_n (npc := 29) rfl dX0_toneOf_28 rfl ?_
    refine aw_iload_n (npc := 30) rfl dX0_toneOf_29 rfl ?_
    refine aw_callV (npc := 33) (N := mX0_plainTone) (b := b) (mc := 0) (ms := 0) (A := [.int (nI f)]) (S := []) (L0 := [some (.ref b), some (.int (nI f)), none]) dX0_toneOf_30 rfl km_X0_plainTone kk_X0_95 F.1 ⟨by decide, rfl⟩ rfl ⟨rfl, by decide⟩ rfl (Nat.le_of_ble_eq_true rfl) (Nat.zero_add _) (Nat.zero_add _) rfl ?_
    refine g_plain F G hc7 hv hf hb (fun pl h9 hpl F9 G9 fz => ?_)
    refine aw_re (S' := [.int pl]) rfl ?_
    refine aw_istore_n (npc := 34) (L' := [some (.ref b), some (.int (nI f)), some (.int 2), some (.int pl)]) dX0_toneOf_33 rfl (by decide) rfl rfl ?_
    refine aw_iload_n (npc := 35) rfl dX0_toneOf_34 rfl ?_
    refine aw_tableIn (npc := 74) dX0_toneOf_35 (by decide) (by decide) rfl (by decide) ?_
    refine aw_iload_n (npc := 75) rfl dX0_toneOf_74 rfl ?_
    refine aw_iconst (npc := 76) (v := 2) (by decide) dX0_toneOf_75 rfl ?_
    refine aw_idiv (npc := 77) (by decide) dX0_toneOf_76 rfl ?_
    refine aw_iret rfl dX0_toneOf_77 ?_
    exact hq _ _ ⟨pl, hpl, by simp [toneK, ek]⟩ F9 G9 fz
  · refine aw_top (y := 3) ek ?_
    refine aw_istore_n (npc := 7) (L' := [some (.ref b), some (.int (nI f)), some (.int 3), none]) dX0_toneOf_6 rfl (by decide) rfl rfl ?_
    refine aw_iload_n (npc := 8) rfl dX0_toneOf_7 rfl ?_
    refine aw_iconst (npc := 9) (v := 5) (by decide) dX0_toneOf_8 rfl ?_
    refine aw_icmp_eq (npc := 12) (tgt := 26) dX0_toneOf_9 rfl (by decide) (fun hc => absurd hc (by decide)) (fun _ => ?_)
    refine aw_iload_n (npc := 13) rfl dX0_toneOf_12 rfl ?_
    refine aw_iconst (npc := 14) (v := 3) (by decide) dX0_toneOf_13 rfl ?_
    refine aw_icmp_ne (npc := 17) (tgt := 28) dX0_toneOf_14 rfl (by decide) (fun hc => absurd (by decide) hc) (fun _ => ?_)
    refine aw_aload_n (npc := 18) rfl dX0_toneOf_17 rfl ?_
    refine aw_get (npc := 21) dX0_toneOf_18 rfl kf_X0_21 F.1 rfl ?_
    refine aw_bipush (npc := 23) (v := 40) (by decide) dX0_toneOf_21 rfl ?_
    refine aw_icmp_lt (npc := 26) (tgt := 28) dX0_toneOf_23 rfl (by decide) (fun hc1 => ?_) (fun hc1 => ?_)
    · refine aw_aload_n (npc := 29) rfl dX0_toneOf_28 rfl ?_
      refine aw_iload_n (npc := 30) rfl dX0_toneOf_29 rfl ?_
      refine aw_callV (npc := 33) (N := mX0_plainTone) (b := b) (mc := 0) (ms := 0) (A := [.int (nI f)]) (S := []) (L0 := [some (.ref b), some (.int (nI f)), none]) dX0_toneOf_30 rfl km_X0_plainTone kk_X0_95 F.1 ⟨by decide, rfl⟩ rfl ⟨rfl, by decide⟩ rfl (Nat.le_of_ble_eq_true rfl) (Nat.zero_add _) (Nat.zero_add _) rfl ?_
      refine g_plain F G hc7 hv hf hb (fun pl h9 hpl F9 G9 fz => ?_)
      refine aw_re (S' := [.int pl]) rfl ?_
      refine aw_istore_n (npc := 34) (L' := [some (.ref b), some (.int (nI f)), some (.int 3), some (.int pl)]) dX0_toneOf_33 rfl (by decide) rfl rfl ?_
      refine aw_iload_n (npc := 35) rfl dX0_toneOf_34 rfl ?_
      refine aw_tableIn (npc := 64) dX0_toneOf_35 (by decide) (by decide) rfl (by decide) ?_
      refine aw_iload_n (npc := 65) rfl dX0_toneOf_64 rfl ?_
      refine aw_bipush (npc := 67) (v := 20) (by decide) dX0_toneOf_65 rfl ?_
      refine aw_iadd (npc := 68) dX0_toneOf_67 rfl ?_
      refine aw_bipush (npc := 70) (v := 99) (by decide) dX0_toneOf_68 rfl ?_
      refine aw_mmin (npc := 73) dX0_toneOf_70 rfl kmm_X0_98 kmx_min (Nat.le_of_ble_eq_true rfl) ?_
      refine aw_iret rfl dX0_toneOf_73 ?_
      exact hq _ _ ⟨pl, hpl, by simp [toneK, ek, hc1]⟩ F9 G9 fz
    · refine aw_iconst (npc := 27) (v := 0) (by decide) dX0_toneOf_26 rfl ?_
      refine aw_iret rfl dX0_toneOf_27 ?_
      obtain ⟨pl, hpl⟩ := pl_ex (lk := lk) (f := f) G hc7 hv
      exact hq _ _ ⟨pl, hpl, by simp [toneK, ek, hc1]⟩ F G am_fb0
  · refine aw_top (y := 4) ek ?_
    refine aw_istore_n (npc := 7) (L' := [some (.ref b), some (.int (nI f)), some (.int 4), none]) dX0_toneOf_6 rfl (by decide) rfl rfl ?_
    refine aw_iload_n (npc := 8) rfl dX0_toneOf_7 rfl ?_
    refine aw_iconst (npc := 9) (v := 5) (by decide) dX0_toneOf_8 rfl ?_
    refine aw_icmp_eq (npc := 12) (tgt := 26) dX0_toneOf_9 rfl (by decide) (fun hc => absurd hc (by decide)) (fun _ => ?_)
    refine aw_iload_n (npc := 13) rfl dX0_toneOf_12 rfl ?_
    refine aw_iconst (npc := 14) (v := 3) (by decide) dX0_toneOf_13 rfl ?_
    refine aw_icmp_ne (npc := 17) (tgt := 28) dX0_toneOf_14 rfl (by decide) (fun _ => ?_) (fun hc => absurd hc (by decide))
    refine aw_aload_n (npc := 29) rfl dX0_toneOf_28 rfl ?_
    refine aw_iload_n (npc := 30) rfl dX0_toneOf_29 rfl ?_
    refine aw_callV (npc := 33) (N := mX0_plainTone) (b := b) (mc := 0) (ms := 0) (A := [.int (nI f)]) (S := []) (L0 := [some (.ref b), some (.int (nI f)), none]) dX0_toneOf_30 rfl km_X0_plainTone kk_X0_95 F.1 ⟨by decide, rfl⟩ rfl ⟨rfl, by decide⟩ rfl (Nat.le_of_ble_eq_true rfl) (Nat.zero_add _) (Nat.zero_add _) rfl ?_
    refine g_plain F G hc7 hv hf hb (fun pl h9 hpl F9 G9 fz => ?_)
    refine aw_re (S' := [.int pl]) rfl ?_
    refine aw_istore_n (npc := 34) (L' := [some (.ref b), some (.int (nI f)), some (.int 4), some (.int pl)]) dX0_toneOf_33 rfl (by decide) rfl rfl ?_
    refine aw_iload_n (npc := 35) rfl dX0_toneOf_34 rfl ?_
    refine aw_tableIn (npc := 78) dX0_toneOf_35 (by decide) (by decide) rfl (by decide) ?_
    refine aw_iload_n (npc := 79) rfl dX0_toneOf_78 rfl ?_
    refine aw_iconst (npc := 80) (v := 2) (by decide) dX0_toneOf_79 rfl ?_
    refine aw_idiv (npc := 81) (by decide) dX0_toneOf_80 rfl ?_
    refine aw_bipush (npc := 83) (v := 10) (by decide) dX0_toneOf_81 rfl ?_
    refine aw_isub (npc := 84) dX0_toneOf_83 rfl ?_
    refine aw_iconst (npc := 85) (v := 0) (by decide) dX0_toneOf_84 rfl ?_
    refine aw_mmax (npc := 88) dX0_toneOf_85 rfl kmm_X0_103 kmx_max (Nat.le_of_ble_eq_true rfl) ?_
    refine aw_iret rfl dX0_toneOf_88 ?_
    exact hq _ _ ⟨pl, hpl, by simp [toneK, ek]⟩ F9 G9 fz
  · refine aw_top (y := 5) ek ?_
    refine aw_istore_n (npc := 7) (L' := [some (.ref b), some (.int (nI f)), some (.int 5), none]) dX0_toneOf_6 rfl (by decide) rfl rfl ?_
    refine aw_iload_n (npc := 8) rfl dX0_toneOf_7 rfl ?_
    refine aw_iconst (npc := 9) (v := 5) (by decide) dX0_toneOf_8 rfl ?_
    refine aw_icmp_eq (npc := 12) (tgt := 26) dX0_toneOf_9 rfl (by decide) (fun _ => ?_) (fun hc => absurd (by decide) hc)
    refine aw_iconst (npc := 27) (v := 0) (by decide) dX0_toneOf_26 rfl ?_
    refine aw_iret rfl dX0_toneOf_27 ?_
    obtain ⟨pl, hpl⟩ := pl_ex (lk := lk) (f := f) G hc7 hv
    exact hq _ _ ⟨pl, hpl, by simp [toneK, ek]⟩ F G am_fb0
def tyStp (s g jo : Nat) (N : Nat → Int32) (t : Nat) (p : Int32 × Int32) : Int32 × Int32 := if (if s = 0 then N (8 + 1 * t) ≤ 0 else 9 ≤ N (8 + 1 * t)) then p else if p.1 < 0 then (nI t, N (12 + 1 * (jo + t))) else if (if g = 1 then N (12 + 1 * (jo + t)) ≤ p.2 else p.2 ≤ N (12 + 1 * (jo + t))) then p else (nI t, N (12 + 1 * (jo + t)))
def tyM (s g jo : Nat) (N : Nat → Int32) : Nat → Nat → Int32 × Int32 → Int32 × Int32
  | 0, _, p => p
  | m + 1, t, p => tyM s g jo N m (t + 1) (tyStp s g jo N t p)
def tyK (k s : Int32) (N : Nat → Int32) : Int32 := if s = 0 then (if k = 1 then (tyM 0 0 4 N 4 0 (-1, 0)).1 else if k = 3 then (tyM 0 0 4 N 4 0 (-1, 0)).1 else if k = 4 then (tyM 0 1 4 N 4 0 (-1, 0)).1 else if k = 5 then (tyM 0 1 0 N 4 0 (-1, 0)).1 else (tyM 0 0 0 N 4 0 (-1, 0)).1) else (if k = 1 then (tyM 1 0 0 N 4 0 (-1, 0)).1 else if k = 3 then (tyM 1 0 0 N 4 0 (-1, 0)).1 else if k = 4 then (tyM 1 1 0 N 4 0 (-1, 0)).1 else if k = 5 then (tyM 1 1 4 N 4 0 (-1, 0)).1 else (tyM 1 0 4 N 4 0 (-1, 0)).1)
def ty (N : Nat → Int32) (f : Nat) : Int32 := tyK (N (22 + 5 * f)) (N (23 + 5 * f)) N
set_option maxHeartbeats 4000000 in
set_option maxRecDepth 100000 in
theorem g_tyL000 {X : List Int32} {d rc rs n : Nat} {Q : am_Q} {b : Nat} {N : Nat → Int32} {tx : List Value} {lk mv : Nat → Int32} {h : am_H} {f : Nat} {kd bo : Int32} (F : QR b N tx lk mv h) : ∀ (m t : Nat), t + m = 4 → ∀ (bs bc : Int32) (v10 v11 : Option Value), Q (some (.int (tyM 0 0 0 N m t (bs, bc)).1)) n h → AW X mX0_termYielded (d + 3) rc rs 76 [some (.ref b), some (.int (nI f)), some (.int kd), some (.int 0), some (.int bo), some (.int 0), some (.int 0), some (.int bs), some (.int bc), some (.int (nI t)), v10, v11] [] n h Q := by
  intro m
  induction m with
  | zero =>
    intro t ht bs bc v10 v11 hq
    obtain rfl : t = 4 := by omega
    refine aw_iload (npc := 78) rfl dX0_termYielded_76 rfl ?_
    refine aw_iconst (npc := 79) (v := 4) (by decide) dX0_termYielded_78 rfl ?_
    refine aw_icmp_ge (npc := 82) (tgt := 183) dX0_termYielded_79 rfl (by decide) (fun _ => ?_) (fun hc => absurd (nI_le (a := 4) (b := 4) (by omega) (by omega)) hc)
    refine aw_iload (npc := 185) rfl dX0_termYielded_183 rfl ?_
    refine aw_iret rfl dX0_termYielded_185 ?_
    exact hq
  | succ m ih =>
    intro t ht bs bc v10 v11 hq
    refine aw_iload (npc := 78) rfl dX0_termYielded_76 rfl ?_
    refine aw_iconst (npc := 79) (v := 4) (by decide) dX0_termYielded_78 rfl ?_
    refine aw_icmp_ge (npc := 82) (tgt := 183) dX0_termYielded_79 rfl (by decide) (fun hc => absurd hc (nI_ge (a := t) (b := 4) (by omega) (by omega))) (fun _ => ?_)
    refine aw_iload_n (npc := 83) rfl dX0_termYielded_82 rfl ?_
    refine aw_if_ne (npc := 86) (tgt := 104) dX0_termYielded_83 rfl (by decide) (fun hc => absurd (by decide) hc) (fun _ => ?_)
    refine aw_aload_n (npc := 87) rfl dX0_termYielded_86 rfl ?_
    refine aw_get (npc := 90) dX0_termYielded_87 rfl kf_X0_9 F.1 rfl ?_
    refine aw_iload (npc := 92) rfl dX0_termYielded_90 rfl ?_
    refine aw_iald (npc := 93) (x := N (8 + 1 * t)) (j := t) dX0_termYielded_92 rfl F.2.1 (am_ix_nI (by omega)) (tl_at (by omega)) ?_
    refine aw_if_le (npc := 96) (tgt := 100) dX0_termYielded_93 rfl (by decide) (fun hc2 => ?_) (fun hc2 => ?_)
    · refine aw_iconst (npc := 101) (v := 0) (by decide) dX0_termYielded_100 rfl ?_
      refine aw_goto (npc := 121) dX0_termYielded_101 (by decide) ?_
      refine aw_istore (npc := 123) (L' := [some (.ref b), some (.int (nI f)), some (.int kd), some (.int 0), some (.int bo), some (.int 0), some (.int 0), some (.int bs), some (.int bc), some (.int (nI t)), some (.int 0), v11]) dX0_termYielded_121 rfl (by decide) rfl rfl ?_
      refine aw_aload_n (npc := 124) rfl dX0_termYielded_123 rfl ?_
      refine aw_get (npc := 127) dX0_termYielded_124 rfl kf_X0_15 F.1 rfl ?_
      refine aw_iload (npc := 129) rfl dX0_termYielded_127 rfl ?_
      refine aw_iload (npc := 131) rfl dX0_termYielded_129 rfl ?_
      refine aw_callSN (npc := 134) (N := mX7_carePlace) (mc := 0) (ms := 0) (A := [.int 0, .int (nI t)]) (S := [.ref (b + 2)]) (L0 := [some (.int 0), some (.int (nI t))]) dX0_termYielded_131 rfl km_X7_carePlace kk_X0_87 rfl ⟨rfl, by decide⟩ rfl (Nat.le_of_ble_eq_true rfl) (Nat.zero_add _) (Nat.zero_add _) rfl ?_
      refine aw_iload_n (npc := 1) rfl dX7_carePlace_0 rfl ?_
      refine aw_iconst (npc := 2) (v := 4) (by decide) dX7_carePlace_1 rfl ?_
      refine aw_imulV (npc := 3) (v := 0) dX7_carePlace_2 rfl (by decide) ?_
      refine aw_iload_n (npc := 4) rfl dX7_carePlace_3 rfl ?_
      refine aw_iaddV (npc := 5) (v := nI (0 + t)) dX7_carePlace_4 rfl (nI_add 0 _) ?_
      refine aw_iret rfl dX7_carePlace_5 ?_
      refine aw_re (S' := [.int (nI (0 + t)), .ref (b + 2)]) rfl ?_
      refine aw_iald (npc := 135) (x := N (12 + 1 * (0 + t))) (j := (0 + t)) dX0_termYielded_134 rfl F.2.2.1 (am_ix_nI (by omega)) (tl_at (by omega)) ?_
      refine aw_istore (npc := 137) (L' := [some (.ref b), some (.int (nI f)), some (.int kd), some (.int 0), some (.int bo), some (.int 0), some (.int 0), some (.int bs), some (.int bc), some (.int (nI t)), some (.int 0), some (.int (N (12 + 1 * (0 + t))))]) dX0_termYielded_135 rfl (by decide) rfl rfl ?_
      refine aw_iload (npc := 139) rfl dX0_termYielded_137 rfl ?_
      refine aw_if_eq (npc := 142) (tgt := 177) dX0_termYielded_139 rfl (by decide) (fun _ => ?_) (fun hc => absurd (by decide) hc)
      refine aw_iinc (npc := 180) (v := nI (t + 1)) (L' := [some (.ref b), some (.int (nI f)), some (.int kd), some (.int 0), some (.int bo), some (.int 0), some (.int 0), some (.int bs), some (.int bc), some (.int (nI (t + 1))), some (.int 0), some (.int (N (12 + 1 * (0 + t))))]) dX0_termYielded_177 rfl rfl (nI_1 _) (by decide) rfl rfl ?_
      refine aw_goto (npc := 76) dX0_termYielded_180 (by decide) ?_
      refine ih (t + 1) (by omega) bs bc _ _ ?_
      have e9 : tyStp 0 0 0 N t (bs, bc) = (bs, bc) := by simp [tyStp, hc2, -Nat.one_mul, -Nat.zero_add]
      exact (congrArg (tyM 0 0 0 N m (t + 1)) e9) ▸ hq
    · refine aw_iconst (npc := 97) (v := 1) (by decide) dX0_termYielded_96 rfl ?_
      refine aw_goto (npc := 121) dX0_termYielded_97 (by decide) ?_
      refine aw_istore (npc := 123) (L' := [some (.ref b), some (.int (nI f)), some (.int kd), some (.int 0), some (.int bo), some (.int 0), some (.int 0), some (.int bs), some (.int bc), some (.int (nI t)), some (.int 1), v11]) dX0_termYielded_121 rfl (by decide) rfl rfl ?_
      refine aw_aload_n (npc := 124) rfl dX0_termYielded_123 rfl ?_
      refine aw_get (npc := 127) dX0_termYielded_124 rfl kf_X0_15 F.1 rfl ?_
      refine aw_iload (npc := 129) rfl dX0_termYielded_127 rfl ?_
      refine aw_iload (npc := 131) rfl dX0_termYielded_129 rfl ?_
      refine aw_callSN (npc := 134) (N := mX7_carePlace) (mc := 0) (ms := 0) (A := [.int 0, .int (nI t)]) (S := [.ref (b + 2)]) (L0 := [some (.int 0), some (.int (nI t))]) dX0_termYielded_131 rfl km_X7_carePlace kk_X0_87 rfl ⟨rfl, by decide⟩ rfl (Nat.le_of_ble_eq_true rfl) (Nat.zero_add _) (Nat.zero_add _) rfl ?_
      refine aw_iload_n (npc := 1) rfl dX7_carePlace_0 rfl ?_
      refine aw_iconst (npc := 2) (v := 4) (by decide) dX7_carePlace_1 rfl ?_
      refine aw_imulV (npc := 3) (v := 0) dX7_carePlace_2 rfl (by decide) ?_
      refine aw_iload_n (npc := 4) rfl dX7_carePlace_3 rfl ?_
      refine aw_iaddV (npc := 5) (v := nI (0 + t)) dX7_carePlace_4 rfl (nI_add 0 _) ?_
      refine aw_iret rfl dX7_carePlace_5 ?_
      refine aw_re (S' := [.int (nI (0 + t)), .ref (b + 2)]) rfl ?_
      refine aw_iald (npc := 135) (x := N (12 + 1 * (0 + t))) (j := (0 + t)) dX0_termYielded_134 rfl F.2.2.1 (am_ix_nI (by omega)) (tl_at (by omega)) ?_
      refine aw_istore (npc := 137) (L' := [some (.ref b), some (.int (nI f)), some (.int kd), some (.int 0), some (.int bo), some (.int 0), some (.int 0), some (.int bs), some (.int bc), some (.int (nI t)), some (.int 1), some (.int (N (12 + 1 * (0 + t))))]) dX0_termYielded_135 rfl (by decide) rfl rfl ?_
      refine aw_iload (npc := 139) rfl dX0_termYielded_137 rfl ?_
      refine aw_if_eq (npc := 142) (tgt := 177) dX0_termYielded_139 rfl (by decide) (fun hc => absurd hc (by decide)) (fun _ => ?_)
      refine aw_iload (npc := 144) rfl dX0_termYielded_142 rfl ?_
      refine aw_if_lt (npc := 147) (tgt := 169) dX0_termYielded_144 rfl (by decide) (fun hc3 => ?_) (fun hc3 => ?_)
      · refine aw_iload (npc := 171) rfl dX0_termYielded_169 rfl ?_
        refine aw_istore (npc := 173) (L' := [some (.ref b), some (.int (nI f)), some (.int kd), some (.int 0), some (.int bo), some (.int 0), some (.int 0), some (.int (nI t)), some (.int bc), some (.int (nI t)), some (.int 1), some (.int (N (12 + 1 * (0 + t))))]) dX0_termYielded_171 rfl (by decide) rfl rfl ?_
        refine aw_iload (npc := 175) rfl dX0_termYielded_173 rfl ?_
        refine aw_istore (npc := 177) (L' := [some (.ref b), some (.int (nI f)), some (.int kd), some (.int 0), some (.int bo), some (.int 0), some (.int 0), some (.int (nI t)), some (.int (N (12 + 1 * (0 + t)))), some (.int (nI t)), some (.int 1), some (.int (N (12 + 1 * (0 + t))))]) dX0_termYielded_175 rfl (by decide) rfl rfl ?_
        refine aw_iinc (npc := 180) (v := nI (t + 1)) (L' := [some (.ref b), some (.int (nI f)), some (.int kd), some (.int 0), some (.int bo), some (.int 0), some (.int 0), some (.int (nI t)), some (.int (N (12 + 1 * (0 + t)))), some (.int (nI (t + 1))), some (.int 1), some (.int (N (12 + 1 * (0 + t))))]) dX0_termYielded_177 rfl rfl (nI_1 _) (by decide) rfl rfl ?_
        refine aw_goto (npc := 76) dX0_termYielded_180 (by decide) ?_
        refine ih (t + 1) (by omega) (nI t) (N (12 + 1 * (0 + t))) _ _ ?_
        have e9 : tyStp 0 0 0 N t (bs, bc) = (nI t, N (12 + 1 * (0 + t))) := by simp [tyStp, hc2, hc3, -Nat.one_mul, -Nat.zero_add]
        exact (congrArg (tyM 0 0 0 N m (t + 1)) e9) ▸ hq
      · refine aw_iload (npc := 149) rfl dX0_termYielded_147 rfl ?_
        refine aw_if_eq (npc := 152) (tgt := 162) dX0_termYielded_149 rfl (by decide) (fun _ => ?_) (fun hc => absurd (by decide) hc)
        refine aw_iload (npc := 164) rfl dX0_termYielded_162 rfl ?_
        refine aw_iload (npc := 166) rfl dX0_termYielded_164 rfl ?_
        refine aw_icmp_ge (npc := 169) (tgt := 177) dX0_termYielded_166 rfl (by decide) (fun hc4 => ?_) (fun hc4 => ?_)
        · refine aw_iinc (npc := 180) (v := nI (t + 1)) (L' := [some (.ref b), some (.int (nI f)), some (.int kd), some (.int 0), some (.int bo), some (.int 0), some (.int 0), some (.int bs), some (.int bc), some (.int (nI (t + 1))), some (.int 1), some (.int (N (12 + 1 * (0 + t))))]) dX0_termYielded_177 rfl rfl (nI_1 _) (by decide) rfl rfl ?_
          refine aw_goto (npc := 76) dX0_termYielded_180 (by decide) ?_
          refine ih (t + 1) (by omega) bs bc _ _ ?_
          have e9 : tyStp 0 0 0 N t (bs, bc) = (bs, bc) := by simp [tyStp, hc2, hc3, hc4, -Nat.one_mul, -Nat.zero_add]
          exact (congrArg (tyM 0 0 0 N m (t + 1)) e9) ▸ hq
        · refine aw_iload (npc := 171) rfl dX0_termYielded_169 rfl ?_
          refine aw_istore (npc := 173) (L' := [some (.ref b), some (.int (nI f)), some (.int kd), some (.int 0), some (.int bo), some (.int 0), some (.int 0), some (.int (nI t)), some (.int bc), some (.int (nI t)), some (.int 1), some (.int (N (12 + 1 * (0 + t))))]) dX0_termYielded_171 rfl (by decide) rfl rfl ?_
          refine aw_iload (npc := 175) rfl dX0_termYielded_173 rfl ?_
          refine aw_istore (npc := 177) (L' := [some (.ref b), some (.int (nI f)), some (.int kd), some (.int 0), some (.int bo), some (.int 0), some (.int 0), some (.int (nI t)), some (.int (N (12 + 1 * (0 + t)))), some (.int (nI t)), some (.int 1), some (.int (N (12 + 1 * (0 + t))))]) dX0_termYielded_175 rfl (by decide) rfl rfl ?_
          refine aw_iinc (npc := 180) (v := nI (t + 1)) (L' := [some (.ref b), some (.int (nI f)), some (.int kd), some (.int 0), some (.int bo), some (.int 0), some (.int 0), some (.int (nI t)), some (.int (N (12 + 1 * (0 + t)))), some (.int (nI (t + 1))), some (.int 1), some (.int (N (12 + 1 * (0 + t))))]) dX0_termYielded_177 rfl rfl (nI_1 _) (by decide) rfl rfl ?_
          refine aw_goto (npc := 76) dX0_termYielded_180 (by decide) ?_
          refine ih (t + 1) (by omega) (nI t) (N (12 + 1 * (0 + t))) _ _ ?_
          have e9 : tyStp 0 0 0 N t (bs, bc) = (nI t, N (12 + 1 * (0 + t))) := by simp [tyStp, hc2, hc3, hc4, -Nat.one_mul, -Nat.zero_add]
          exact (congrArg (tyM 0 0 0 N m (t + 1)) e9) ▸ hq
set_option maxHeartbeats 4000000 in
set_option maxRecDepth 100000 in
theorem g_tyL001 {X : List Int32} {d rc rs n : Nat} {Q : am_Q} {b : Nat} {N : Nat → Int32} {tx : List Value} {lk mv : Nat → Int32} {h : am_H} {f : Nat} {kd bo : Int32} (F : QR b N tx lk mv h) : ∀ (m t : Nat), t + m = 4 → ∀ (bs bc : Int32) (v10 v11 : Option Value), Q (some (.int (tyM 0 0 4 N m t (bs, bc)).1)) n h → AW X mX0_termYielded (d + 3) rc rs 76 [some (.ref b), some (.int (nI f)), some (.int kd), some (.int 0), some (.int bo), some (.int 0), some (.int 1), some (.int bs), some (.int bc), some (.int (nI t)), v10, v11] [] n h Q := by
  intro m
  induction m with
  | zero =>
    intro t ht bs bc v10 v11 hq
    obtain rfl : t = 4 := by omega
    refine aw_iload (npc := 78) rfl dX0_termYielded_76 rfl ?_
    refine aw_iconst (npc := 79) (v := 4) (by decide) dX0_termYielded_78 rfl ?_
    refine aw_icmp_ge (npc := 82) (tgt := 183) dX0_termYielded_79 rfl (by decide) (fun _ => ?_) (fun hc => absurd (nI_le (a := 4) (b := 4) (by omega) (by omega)) hc)
    refine aw_iload (npc := 185) rfl dX0_termYielded_183 rfl ?_
    refine aw_iret rfl dX0_termYielded_185 ?_
    exact hq
  | succ m ih =>
    intro t ht bs bc v10 v11 hq
    refine aw_iload (npc := 78) rfl dX0_termYielded_76 rfl ?_
    refine aw_iconst (npc := 79) (v := 4) (by decide) dX0_termYielded_78 rfl ?_
    refine aw_icmp_ge (npc := 82) (tgt := 183) dX0_termYielded_79 rfl (by decide) (fun hc => absurd hc (nI_ge (a := t) (b := 4) (by omega) (by omega))) (fun _ => ?_)
    refine aw_iload_n (npc := 83) rfl dX0_termYielded_82 rfl ?_
    refine aw_if_ne (npc := 86) (tgt := 104) dX0_termYielded_83 rfl (by decide) (fun hc => absurd (by decide) hc) (fun _ => ?_)
    refine aw_aload_n (npc := 87) rfl dX0_termYielded_86 rfl ?_
    refine aw_get (npc := 90) dX0_termYielded_87 rfl kf_X0_9 F.1 rfl ?_
    refine aw_iload (npc := 92) rfl dX0_termYielded_90 rfl ?_
    refine aw_iald (npc := 93) (x := N (8 + 1 * t)) (j := t) dX0_termYielded_92 rfl F.2.1 (am_ix_nI (by omega)) (tl_at (by omega)) ?_
    refine aw_if_le (npc := 96) (tgt := 100) dX0_termYielded_93 rfl (by decide) (fun hc2 => ?_) (fun hc2 => ?_)
    · refine aw_iconst (npc := 101) (v := 0) (by decide) dX0_termYielded_100 rfl ?_
      refine aw_goto (npc := 121) dX0_termYielded_101 (by decide) ?_
      refine aw_istore (npc := 123) (L' := [some (.ref b), some (.int (nI f)), some (.int kd), some (.int 0), some (.int bo), some (.int 0), some (.int 1), some (.int bs), some (.int bc), some (.int (nI t)), some (.int 0), v11]) dX0_termYielded_121 rfl (by decide) rfl rfl ?_
      refine aw_aload_n (npc := 124) rfl dX0_termYielded_123 rfl ?_
      refine aw_get (npc := 127) dX0_termYielded_124 rfl kf_X0_15 F.1 rfl ?_
      refine aw_iload (npc := 129) rfl dX0_termYielded_127 rfl ?_
      refine aw_iload (npc := 131) rfl dX0_termYielded_129 rfl ?_
      refine aw_callSN (npc := 134) (N := mX7_carePlace) (mc := 0) (ms := 0) (A := [.int 1, .int (nI t)]) (S := [.ref (b + 2)]) (L0 := [some (.int 1), some (.int (nI t))]) dX0_termYielded_131 rfl km_X7_carePlace kk_X0_87 rfl ⟨rfl, by decide⟩ rfl (Nat.le_of_ble_eq_true rfl) (Nat.zero_add _) (Nat.zero_add _) rfl ?_
      refine aw_iload_n (npc := 1) rfl dX7_carePlace_0 rfl ?_
      refine aw_iconst (npc := 2) (v := 4) (by decide) dX7_carePlace_1 rfl ?_
      refine aw_imulV (npc := 3) (v := 4) dX7_carePlace_2 rfl (by decide) ?_
      refine aw_iload_n (npc := 4) rfl dX7_carePlace_3 rfl ?_
      refine aw_iaddV (npc := 5) (v := nI (4 + t)) dX7_carePlace_4 rfl (nI_add 4 _) ?_
      refine aw_iret rfl dX7_carePlace_5 ?_
      refine aw_re (S' := [.int (nI (4 + t)), .ref (b + 2)]) rfl ?_
      refine aw_iald (npc := 135) (x := N (12 + 1 * (4 + t))) (j := (4 + t)) dX0_termYielded_134 rfl F.2.2.1 (am_ix_nI (by omega)) (tl_at (by omega)) ?_
      refine aw_istore (npc := 137) (L' := [some (.ref b), some (.int (nI f)), some (.int kd), some (.int 0), some (.int bo), some (.int 0), some (.int 1), some (.int bs), some (.int bc), some (.int (nI t)), some (.int 0), some (.int (N (12 + 1 * (4 + t))))]) dX0_termYielded_135 rfl (by decide) rfl rfl ?_
      refine aw_iload (npc := 139) rfl dX0_termYielded_137 rfl ?_
      refine aw_if_eq (npc := 142) (tgt := 177) dX0_termYielded_139 rfl (by decide) (fun _ => ?_) (fun hc => absurd (by decide) hc)
      refine aw_iinc (npc := 180) (v := nI (t + 1)) (L' := [some (.ref b), some (.int (nI f)), some (.int kd), some (.int 0), some (.int bo), some (.int 0), some (.int 1), some (.int bs), some (.int bc), some (.int (nI (t + 1))), some (.int 0), some (.int (N (12 + 1 * (4 + t))))]) dX0_termYielded_177 rfl rfl (nI_1 _) (by decide) rfl rfl ?_
      refine aw_goto (npc := 76) dX0_termYielded_180 (by decide) ?_
      refine ih (t + 1) (by omega) bs bc _ _ ?_
      have e9 : tyStp 0 0 4 N t (bs, bc) = (bs, bc) := by simp [tyStp, hc2, -Nat.one_mul, -Nat.zero_add]
      exact (congrArg (tyM 0 0 4 N m (t + 1)) e9) ▸ hq
    · refine aw_iconst (npc := 97) (v := 1) (by decide) dX0_termYielded_96 rfl ?_
      refine aw_goto (npc := 121) dX0_termYielded_97 (by decide) ?_
      refine aw_istore (npc := 123) (L' := [some (.ref b), some (.int (nI f)), some (.int kd), some (.int 0), some (.int bo), some (.int 0), some (.int 1), some (.int bs), some (.int bc), some (.int (nI t)), some (.int 1), v11]) dX0_termYielded_121 rfl (by decide) rfl rfl ?_
      refine aw_aload_n (npc := 124) rfl dX0_termYielded_123 rfl ?_
      refine aw_get (npc := 127) dX0_termYielded_124 rfl kf_X0_15 F.1 rfl ?_
      refine aw_iload (npc := 129) rfl dX0_termYielded_127 rfl ?_
      refine aw_iload (npc := 131) rfl dX0_termYielded_129 rfl ?_
      refine aw_callSN (npc := 134) (N := mX7_carePlace) (mc := 0) (ms := 0) (A := [.int 1, .int (nI t)]) (S := [.ref (b + 2)]) (L0 := [some (.int 1), some (.int (nI t))]) dX0_termYielded_131 rfl km_X7_carePlace kk_X0_87 rfl ⟨rfl, by decide⟩ rfl (Nat.le_of_ble_eq_true rfl) (Nat.zero_add _) (Nat.zero_add _) rfl ?_
      refine aw_iload_n (npc := 1) rfl dX7_carePlace_0 rfl ?_
      refine aw_iconst (npc := 2) (v := 4) (by decide) dX7_carePlace_1 rfl ?_
      refine aw_imulV (npc := 3) (v := 4) dX7_carePlace_2 rfl (by decide) ?_
      refine aw_iload_n (npc := 4) rfl dX7_carePlace_3 rfl ?_
      refine aw_iaddV (npc := 5) (v := nI (4 + t)) dX7_carePlace_4 rfl (nI_add 4 _) ?_
      refine aw_iret rfl dX7_carePlace_5 ?_
      refine aw_re (S' := [.int (nI (4 + t)), .ref (b + 2)]) rfl ?_
      refine aw_iald (npc := 135) (x := N (12 + 1 * (4 + t))) (j := (4 + t)) dX0_termYielded_134 rfl F.2.2.1 (am_ix_nI (by omega)) (tl_at (by omega)) ?_
      refine aw_istore (npc := 137) (L' := [some (.ref b), some (.int (nI f)), some (.int kd), some (.int 0), some (.int bo), some (.int 0), some (.int 1), some (.int bs), some (.int bc), some (.int (nI t)), some (.int 1), some (.int (N (12 + 1 * (4 + t))))]) dX0_termYielded_135 rfl (by decide) rfl rfl ?_
      refine aw_iload (npc := 139) rfl dX0_termYielded_137 rfl ?_
      refine aw_if_eq (npc := 142) (tgt := 177) dX0_termYielded_139 rfl (by decide) (fun hc => absurd hc (by decide)) (fun _ => ?_)
      refine aw_iload (npc := 144) rfl dX0_termYielded_142 rfl ?_
      refine aw_if_lt (npc := 147) (tgt := 169) dX0_termYielded_144 rfl (by decide) (fun hc3 => ?_) (fun hc3 => ?_)
      · refine aw_iload (npc := 171) rfl dX0_termYielded_169 rfl ?_
        refine aw_istore (npc := 173) (L' := [some (.ref b), some (.int (nI f)), some (.int kd), some (.int 0), some (.int bo), some (.int 0), some (.int 1), some (.int (nI t)), some (.int bc), some (.int (nI t)), some (.int 1), some (.int (N (12 + 1 * (4 + t))))]) dX0_termYielded_171 rfl (by decide) rfl rfl ?_
        refine aw_iload (npc := 175) rfl dX0_termYielded_173 rfl ?_
        refine aw_istore (npc := 177) (L' := [some (.ref b), some (.int (nI f)), some (.int kd), some (.int 0), some (.int bo), some (.int 0), some (.int 1), some (.int (nI t)), some (.int (N (12 + 1 * (4 + t)))), some (.int (nI t)), some (.int 1), some (.int (N (12 + 1 * (4 + t))))]) dX0_termYielded_175 rfl (by decide) rfl rfl ?_
        refine aw_iinc (npc := 180) (v := nI (t + 1)) (L' := [some (.ref b), some (.int (nI f)), some (.int kd), some (.int 0), some (.int bo), some (.int 0), some (.int 1), some (.int (nI t)), some (.int (N (12 + 1 * (4 + t)))), some (.int (nI (t + 1))), some (.int 1), some (.int (N (12 + 1 * (4 + t))))]) dX0_termYielded_177 rfl rfl (nI_1 _) (by decide) rfl rfl ?_
        refine aw_goto (npc := 76) dX0_termYielded_180 (by decide) ?_
        refine ih (t + 1) (by omega) (nI t) (N (12 + 1 * (4 + t))) _ _ ?_
        have e9 : tyStp 0 0 4 N t (bs, bc) = (nI t, N (12 + 1 * (4 + t))) := by simp [tyStp, hc2, hc3, -Nat.one_mul, -Nat.zero_add]
        exact (congrArg (tyM 0 0 4 N m (t + 1)) e9) ▸ hq
      · refine aw_iload (npc := 149) rfl dX0_termYielded_147 rfl ?_
        refine aw_if_eq (npc := 152) (tgt := 162) dX0_termYielded_149 rfl (by decide) (fun _ => ?_) (fun hc => absurd (by decide) hc)
        refine aw_iload (npc := 164) rfl dX0_termYielded_162 rfl ?_
        refine aw_iload (npc := 166) rfl dX0_termYielded_164 rfl ?_
        refine aw_icmp_ge (npc := 169) (tgt := 177) dX0_termYielded_166 rfl (by decide) (fun hc4 => ?_) (fun hc4 => ?_)
        · refine aw_iinc (npc := 180) (v := nI (t + 1)) (L' := [some (.ref b), some (.int (nI f)), some (.int kd), some (.int 0), some (.int bo), some (.int 0), some (.int 1), some (.int bs), some (.int bc), some (.int (nI (t + 1))), some (.int 1), some (.int (N (12 + 1 * (4 + t))))]) dX0_termYielded_177 rfl rfl (nI_1 _) (by decide) rfl rfl ?_
          refine aw_goto (npc := 76) dX0_termYielded_180 (by decide) ?_
          refine ih (t + 1) (by omega) bs bc _ _ ?_
          have e9 : tyStp 0 0 4 N t (bs, bc) = (bs, bc) := by simp [tyStp, hc2, hc3, hc4, -Nat.one_mul, -Nat.zero_add]
          exact (congrArg (tyM 0 0 4 N m (t + 1)) e9) ▸ hq
        · refine aw_iload (npc := 171) rfl dX0_termYielded_169 rfl ?_
          refine aw_istore (npc := 173) (L' := [some (.ref b), some (.int (nI f)), some (.int kd), some (.int 0), some (.int bo), some (.int 0), some (.int 1), some (.int (nI t)), some (.int bc), some (.int (nI t)), some (.int 1), some (.int (N (12 + 1 * (4 + t))))]) dX0_termYielded_171 rfl (by decide) rfl rfl ?_
          refine aw_iload (npc := 175) rfl dX0_termYielded_173 rfl ?_
          refine aw_istore (npc := 177) (L' := [some (.ref b), some (.int (nI f)), some (.int kd), some (.int 0), some (.int bo), some (.int 0), some (.int 1), some (.int (nI t)), some (.int (N (12 + 1 * (4 + t)))), some (.int (nI t)), some (.int 1), some (.int (N (12 + 1 * (4 + t))))]) dX0_termYielded_175 rfl (by decide) rfl rfl ?_
          refine aw_iinc (npc := 180) (v := nI (t + 1)) (L' := [some (.ref b), some (.int (nI f)), some (.int kd), some (.int 0), some (.int bo), some (.int 0), some (.int 1), some (.int (nI t)), some (.int (N (12 + 1 * (4 + t)))), some (.int (nI (t + 1))), some (.int 1), some (.int (N (12 + 1 * (4 + t))))]) dX0_termYielded_177 rfl rfl (nI_1 _) (by decide) rfl rfl ?_
          refine aw_goto (npc := 76) dX0_termYielded_180 (by decide) ?_
          refine ih (t + 1) (by omega) (nI t) (N (12 + 1 * (4 + t))) _ _ ?_
          have e9 : tyStp 0 0 4 N t (bs, bc) = (nI t, N (12 + 1 * (4 + t))) := by simp [tyStp, hc2, hc3, hc4, -Nat.one_mul, -Nat.zero_add]
          exact (congrArg (tyM 0 0 4 N m (t + 1)) e9) ▸ hq
set_option maxHeartbeats 4000000 in
set_option maxRecDepth 100000 in
theorem g_tyL010 {X : List Int32} {d rc rs n : Nat} {Q : am_Q} {b : Nat} {N : Nat → Int32} {tx : List Value} {lk mv : Nat → Int32} {h : am_H} {f : Nat} {kd bo : Int32} (F : QR b N tx lk mv h) : ∀ (m t : Nat), t + m = 4 → ∀ (bs bc : Int32) (v10 v11 : Option Value), Q (some (.int (tyM 0 1 0 N m t (bs, bc)).1)) n h → AW X mX0_termYielded (d + 3) rc rs 76 [some (.ref b), some (.int (nI f)), some (.int kd), some (.int 0), some (.int bo), some (.int 1), some (.int 0), some (.int bs), some (.int bc), some (.int (nI t)), v10, v11] [] n h Q := by
  intro m
  induction m with
  | zero =>
    intro t ht bs bc v10 v11 hq
    obtain rfl : t = 4 := by omega
    refine aw_iload (npc := 78) rfl dX0_termYielded_76 rfl ?_
    refine aw_iconst (npc := 79) (v := 4) (by decide) dX0_termYielded_78 rfl ?_
    refine aw_icmp_ge (npc := 82) (tgt := 183) dX0_termYielded_79 rfl (by decide) (fun _ => ?_) (fun hc => absurd (nI_le (a := 4) (b := 4) (by omega) (by omega)) hc)
    refine aw_iload (npc := 185) rfl dX0_termYielded_183 rfl ?_
    refine aw_iret rfl dX0_termYielded_185 ?_
    exact hq
  | succ m ih =>
    intro t ht bs bc v10 v11 hq
    refine aw_iload (npc := 78) rfl dX0_termYielded_76 rfl ?_
    refine aw_iconst (npc := 79) (v := 4) (by decide) dX0_termYielded_78 rfl ?_
    refine aw_icmp_ge (npc := 82) (tgt := 183) dX0_termYielded_79 rfl (by decide) (fun hc => absurd hc (nI_ge (a := t) (b := 4) (by omega) (by omega))) (fun _ => ?_)
    refine aw_iload_n (npc := 83) rfl dX0_termYielded_82 rfl ?_
    refine aw_if_ne (npc := 86) (tgt := 104) dX0_termYielded_83 rfl (by decide) (fun hc => absurd (by decide) hc) (fun _ => ?_)
    refine aw_aload_n (npc := 87) rfl dX0_termYielded_86 rfl ?_
    refine aw_get (npc := 90) dX0_termYielded_87 rfl kf_X0_9 F.1 rfl ?_
    refine aw_iload (npc := 92) rfl dX0_termYielded_90 rfl ?_
    refine aw_iald (npc := 93) (x := N (8 + 1 * t)) (j := t) dX0_termYielded_92 rfl F.2.1 (am_ix_nI (by omega)) (tl_at (by omega)) ?_
    refine aw_if_le (npc := 96) (tgt := 100) dX0_termYielded_93 rfl (by decide) (fun hc2 => ?_) (fun hc2 => ?_)
    · refine aw_iconst (npc := 101) (v := 0) (by decide) dX0_termYielded_100 rfl ?_
      refine aw_goto (npc := 121) dX0_termYielded_101 (by decide) ?_
      refine aw_istore (npc := 123) (L' := [some (.ref b), some (.int (nI f)), some (.int kd), some (.int 0), some (.int bo), some (.int 1), some (.int 0), some (.int bs), some (.int bc), some (.int (nI t)), some (.int 0), v11]) dX0_termYielded_121 rfl (by decide) rfl rfl ?_
      refine aw_aload_n (npc := 124) rfl dX0_termYielded_123 rfl ?_
      refine aw_get (npc := 127) dX0_termYielded_124 rfl kf_X0_15 F.1 rfl ?_
      refine aw_iload (npc := 129) rfl dX0_termYielded_127 rfl ?_
      refine aw_iload (npc := 131) rfl dX0_termYielded_129 rfl ?_
      refine aw_callSN (npc := 134) (N := mX7_carePlace) (mc := 0) (ms := 0) (A := [.int 0, .int (nI t)]) (S := [.ref (b + 2)]) (L0 := [some (.int 0), some (.int (nI t))]) dX0_termYielded_131 rfl km_X7_carePlace kk_X0_87 rfl ⟨rfl, by decide⟩ rfl (Nat.le_of_ble_eq_true rfl) (Nat.zero_add _) (Nat.zero_add _) rfl ?_
      refine aw_iload_n (npc := 1) rfl dX7_carePlace_0 rfl ?_
      refine aw_iconst (npc := 2) (v := 4) (by decide) dX7_carePlace_1 rfl ?_
      refine aw_imulV (npc := 3) (v := 0) dX7_carePlace_2 rfl (by decide) ?_
      refine aw_iload_n (npc := 4) rfl dX7_carePlace_3 rfl ?_
      refine aw_iaddV (npc := 5) (v := nI (0 + t)) dX7_carePlace_4 rfl (nI_add 0 _) ?_
      refine aw_iret rfl dX7_carePlace_5 ?_
      refine aw_re (S' := [.int (nI (0 + t)), .ref (b + 2)]) rfl ?_
      refine aw_iald (npc := 135) (x := N (12 + 1 * (0 + t))) (j := (0 + t)) dX0_termYielded_134 rfl F.2.2.1 (am_ix_nI (by omega)) (tl_at (by omega)) ?_
      refine aw_istore (npc := 137) (L' := [some (.ref b), some (.int (nI f)), some (.int kd), some (.int 0), some (.int bo), some (.int 1), some (.int 0), some (.int bs), some (.int bc), some (.int (nI t)), some (.int 0), some (.int (N (12 + 1 * (0 + t))))]) dX0_termYielded_135 rfl (by decide) rfl rfl ?_
      refine aw_iload (npc := 139) rfl dX0_termYielded_137 rfl ?_
      refine aw_if_eq (npc := 142) (tgt := 177) dX0_termYielded_139 rfl (by decide) (fun _ => ?_) (fun hc => absurd (by decide) hc)
      refine aw_iinc (npc := 180) (v := nI (t + 1)) (L' := [some (.ref b), some (.int (nI f)), some (.int kd), some (.int 0), some (.int bo), some (.int 1), some (.int 0), some (.int bs), some (.int bc), some (.int (nI (t + 1))), some (.int 0), some (.int (N (12 + 1 * (0 + t))))]) dX0_termYielded_177 rfl rfl (nI_1 _) (by decide) rfl rfl ?_
      refine aw_goto (npc := 76) dX0_termYielded_180 (by decide) ?_
      refine ih (t + 1) (by omega) bs bc _ _ ?_
      have e9 : tyStp 0 1 0 N t (bs, bc) = (bs, bc) := by simp [tyStp, hc2, -Nat.one_mul, -Nat.zero_add]
      exact (congrArg (tyM 0 1 0 N m (t + 1)) e9) ▸ hq
    · refine aw_iconst (npc := 97) (v := 1) (by decide) dX0_termYielded_96 rfl ?_
      refine aw_goto (npc := 121) dX0_termYielded_97 (by decide) ?_
      refine aw_istore (npc := 123) (L' := [some (.ref b), some (.int (nI f)), some (.int kd), some (.int 0), some (.int bo), some (.int 1), some (.int 0), some (.int bs), some (.int bc), some (.int (nI t)), some (.int 1), v11]) dX0_termYielded_121 rfl (by decide) rfl rfl ?_
      refine aw_aload_n (npc := 124) rfl dX0_termYielded_123 rfl ?_
      refine aw_get (npc := 127) dX0_termYielded_124 rfl kf_X0_15 F.1 rfl ?_
      refine aw_iload (npc := 129) rfl dX0_termYielded_127 rfl ?_
      refine aw_iload (npc := 131) rfl dX0_termYielded_129 rfl ?_
      refine aw_callSN (npc := 134) (N := mX7_carePlace) (mc := 0) (ms := 0) (A := [.int 0, .int (nI t)]) (S := [.ref (b + 2)]) (L0 := [some (.int 0), some (.int (nI t))]) dX0_termYielded_131 rfl km_X7_carePlace kk_X0_87 rfl ⟨rfl, by decide⟩ rfl (Nat.le_of_ble_eq_true rfl) (Nat.zero_add _) (Nat.zero_add _) rfl ?_
      refine aw_iload_n (npc := 1) rfl dX7_carePlace_0 rfl ?_
      refine aw_iconst (npc := 2) (v := 4) (by decide) dX7_carePlace_1 rfl ?_
      refine aw_imulV (npc := 3) (v := 0) dX7_carePlace_2 rfl (by decide) ?_
      refine aw_iload_n (npc := 4) rfl dX7_carePlace_3 rfl ?_
      refine aw_iaddV (npc := 5) (v := nI (0 + t)) dX7_carePlace_4 rfl (nI_add 0 _) ?_
      refine aw_iret rfl dX7_carePlace_5 ?_
      refine aw_re (S' := [.int (nI (0 + t)), .ref (b + 2)]) rfl ?_
      refine aw_iald (npc := 135) (x := N (12 + 1 * (0 + t))) (j := (0 + t)) dX0_termYielded_134 rfl F.2.2.1 (am_ix_nI (by omega)) (tl_at (by omega)) ?_
      refine aw_istore (npc := 137) (L' := [some (.ref b), some (.int (nI f)), some (.int kd), some (.int 0), some (.int bo), some (.int 1), some (.int 0), some (.int bs), some (.int bc), some (.int (nI t)), some (.int 1), some (.int (N (12 + 1 * (0 + t))))]) dX0_termYielded_135 rfl (by decide) rfl rfl ?_
      refine aw_iload (npc := 139) rfl dX0_termYielded_137 rfl ?_
      refine aw_if_eq (npc := 142) (tgt := 177) dX0_termYielded_139 rfl (by decide) (fun hc => absurd hc (by decide)) (fun _ => ?_)
      refine aw_iload (npc := 144) rfl dX0_termYielded_142 rfl ?_
      refine aw_if_lt (npc := 147) (tgt := 169) dX0_termYielded_144 rfl (by decide) (fun hc3 => ?_) (fun hc3 => ?_)
      · refine aw_iload (npc := 171) rfl dX0_termYielded_169 rfl ?_
        refine aw_istore (npc := 173) (L' := [some (.ref b), some (.int (nI f)), some (.int kd), some (.int 0), some (.int bo), some (.int 1), some (.int 0), some (.int (nI t)), some (.int bc), some (.int (nI t)), some (.int 1), some (.int (N (12 + 1 * (0 + t))))]) dX0_termYielded_171 rfl (by decide) rfl rfl ?_
        refine aw_iload (npc := 175) rfl dX0_termYielded_173 rfl ?_
        refine aw_istore (npc := 177) (L' := [some (.ref b), some (.int (nI f)), some (.int kd), some (.int 0), some (.int bo), some (.int 1), some (.int 0), some (.int (nI t)), some (.int (N (12 + 1 * (0 + t)))), some (.int (nI t)), some (.int 1), some (.int (N (12 + 1 * (0 + t))))]) dX0_termYielded_175 rfl (by decide) rfl rfl ?_
        refine aw_iinc (npc := 180) (v := nI (t + 1)) (L' := [some (.ref b), some (.int (nI f)), some (.int kd), some (.int 0), some (.int bo), some (.int 1), some (.int 0), some (.int (nI t)), some (.int (N (12 + 1 * (0 + t)))), some (.int (nI (t + 1))), some (.int 1), some (.int (N (12 + 1 * (0 + t))))]) dX0_termYielded_177 rfl rfl (nI_1 _) (by decide) rfl rfl ?_
        refine aw_goto (npc := 76) dX0_termYielded_180 (by decide) ?_
        refine ih (t + 1) (by omega) (nI t) (N (12 + 1 * (0 + t))) _ _ ?_
        have e9 : tyStp 0 1 0 N t (bs, bc) = (nI t, N (12 + 1 * (0 + t))) := by simp [tyStp, hc2, hc3, -Nat.one_mul, -Nat.zero_add]
        exact (congrArg (tyM 0 1 0 N m (t + 1)) e9) ▸ hq
      · refine aw_iload (npc := 149) rfl dX0_termYielded_147 rfl ?_
        refine aw_if_eq (npc := 152) (tgt := 162) dX0_termYielded_149 rfl (by decide) (fun hc => absurd hc (by decide)) (fun _ => ?_)
        refine aw_iload (npc := 154) rfl dX0_termYielded_152 rfl ?_
        refine aw_iload (npc := 156) rfl dX0_termYielded_154 rfl ?_
        refine aw_icmp_le (npc := 159) (tgt := 177) dX0_termYielded_156 rfl (by decide) (fun hc4 => ?_) (fun hc4 => ?_)
        · refine aw_iinc (npc := 180) (v := nI (t + 1)) (L' := [some (.ref b), some (.int (nI f)), some (.int kd), some (.int 0), some (.int bo), some (.int 1), some (.int 0), some (.int bs), some (.int bc), some (.int (nI (t + 1))), some (.int 1), some (.int (N (12 + 1 * (0 + t))))]) dX0_termYielded_177 rfl rfl (nI_1 _) (by decide) rfl rfl ?_
          refine aw_goto (npc := 76) dX0_termYielded_180 (by decide) ?_
          refine ih (t + 1) (by omega) bs bc _ _ ?_
          have e9 : tyStp 0 1 0 N t (bs, bc) = (bs, bc) := by simp [tyStp, hc2, hc3, hc4, -Nat.one_mul, -Nat.zero_add]
          exact (congrArg (tyM 0 1 0 N m (t + 1)) e9) ▸ hq
        · refine aw_goto (npc := 169) dX0_termYielded_159 (by decide) ?_
          refine aw_iload (npc := 171) rfl dX0_termYielded_169 rfl ?_
          refine aw_istore (npc := 173) (L' := [some (.ref b), some (.int (nI f)), some (.int kd), some (.int 0), some (.int bo), some (.int 1), some (.int 0), some (.int (nI t)), some (.int bc), some (.int (nI t)), some (.int 1), some (.int (N (12 + 1 * (0 + t))))]) dX0_termYielded_171 rfl (by decide) rfl rfl ?_
          refine aw_iload (npc := 175) rfl dX0_termYielded_173 rfl ?_
          refine aw_istore (npc := 177) (L' := [some (.ref b), some (.int (nI f)), some (.int kd), some (.int 0), some (.int bo), some (.int 1), some (.int 0), some (.int (nI t)), some (.int (N (12 + 1 * (0 + t)))), some (.int (nI t)), some (.int 1), some (.int (N (12 + 1 * (0 + t))))]) dX0_termYielded_175 rfl (by decide) rfl rfl ?_
          refine aw_iinc (npc := 180) (v := nI (t + 1)) (L' := [some (.ref b), some (.int (nI f)), some (.int kd), some (.int 0), some (.int bo), some (.int 1), some (.int 0), some (.int (nI t)), some (.int (N (12 + 1 * (0 + t)))), some (.int (nI (t + 1))), some (.int 1), some (.int (N (12 + 1 * (0 + t))))]) dX0_termYielded_177 rfl rfl (nI_1 _) (by decide) rfl rfl ?_
          refine aw_goto (npc := 76) dX0_termYielded_180 (by decide) ?_
          refine ih (t + 1) (by omega) (nI t) (N (12 + 1 * (0 + t))) _ _ ?_
          have e9 : tyStp 0 1 0 N t (bs, bc) = (nI t, N (12 + 1 * (0 + t))) := by simp [tyStp, hc2, hc3, hc4, -Nat.one_mul, -Nat.zero_add]
          exact (congrArg (tyM 0 1 0 N m (t + 1)) e9) ▸ hq
set_option maxHeartbeats 4000000 in
set_option maxRecDepth 100000 in
theorem g_tyL011 {X : List Int32} {d rc rs n : Nat} {Q : am_Q} {b : Nat} {N : Nat → Int32} {tx : List Value} {lk mv : Nat → Int32} {h : am_H} {f : Nat} {kd bo : Int32} (F : QR b N tx lk mv h) : ∀ (m t : Nat), t + m = 4 → ∀ (bs bc : Int32) (v10 v11 : Option Value), Q (some (.int (tyM 0 1 4 N m t (bs, bc)).1)) n h → AW X mX0_termYielded (d + 3) rc rs 76 [some (.ref b), some (.int (nI f)), some (.int kd), some (.int 0), some (.int bo), some (.int 1), some (.int 1), some (.int bs), some (.int bc), some (.int (nI t)), v10, v11] [] n h Q := by
  intro m
  induction m with
  | zero =>
    intro t ht bs bc v10 v11 hq
    obtain rfl : t = 4 := by omega
    refine aw_iload (npc := 78) rfl dX0_termYielded_76 rfl ?_
    refine aw_iconst (npc := 79) (v := 4) (by decide) dX0_termYielded_78 rfl ?_
    refine aw_icmp_ge (npc := 82) (tgt := 183) dX0_termYielded_79 rfl (by decide) (fun _ => ?_) (fun hc => absurd (nI_le (a := 4) (b := 4) (by omega) (by omega)) hc)
    refine aw_iload (npc := 185) rfl dX0_termYielded_183 rfl ?_
    refine aw_iret rfl dX0_termYielded_185 ?_
    exact hq
  | succ m ih =>
    intro t ht bs bc v10 v11 hq
    refine aw_iload (npc := 78) rfl dX0_termYielded_76 rfl ?_
    refine aw_iconst (npc := 79) (v := 4) (by decide) dX0_termYielded_78 rfl ?_
    refine aw_icmp_ge (npc := 82) (tgt := 183) dX0_termYielded_79 rfl (by decide) (fun hc => absurd hc (nI_ge (a := t) (b := 4) (by omega) (by omega))) (fun _ => ?_)
    refine aw_iload_n (npc := 83) rfl dX0_termYielded_82 rfl ?_
    refine aw_if_ne (npc := 86) (tgt := 104) dX0_termYielded_83 rfl (by decide) (fun hc => absurd (by decide) hc) (fun _ => ?_)
    refine aw_aload_n (npc := 87) rfl dX0_termYielded_86 rfl ?_
    refine aw_get (npc := 90) dX0_termYielded_87 rfl kf_X0_9 F.1 rfl ?_
    refine aw_iload (npc := 92) rfl dX0_termYielded_90 rfl ?_
    refine aw_iald (npc := 93) (x := N (8 + 1 * t)) (j := t) dX0_termYielded_92 rfl F.2.1 (am_ix_nI (by omega)) (tl_at (by omega)) ?_
    refine aw_if_le (npc := 96) (tgt := 100) dX0_termYielded_93 rfl (by decide) (fun hc2 => ?_) (fun hc2 => ?_)
    · refine aw_iconst (npc := 101) (v := 0) (by decide) dX0_termYielded_100 rfl ?_
      refine aw_goto (npc := 121) dX0_termYielded_101 (by decide) ?_
      refine aw_istore (npc := 123) (L' := [some (.ref b), some (.int (nI f)), some (.int kd), some (.int 0), some (.int bo), some (.int 1), some (.int 1), some (.int bs), some (.int bc), some (.int (nI t)), some (.int 0), v11]) dX0_termYielded_121 rfl (by decide) rfl rfl ?_
      refine aw_aload_n (npc := 124) rfl dX0_termYielded_123 rfl ?_
      refine aw_get (npc := 127) dX0_termYielded_124 rfl kf_X0_15 F.1 rfl ?_
      refine aw_iload (npc := 129) rfl dX0_termYielded_127 rfl ?_
      refine aw_iload (npc := 131) rfl dX0_termYielded_129 rfl ?_
      refine aw_callSN (npc := 134) (N := mX7_carePlace) (mc := 0) (ms := 0) (A := [.int 1, .int (nI t)]) (S := [.ref (b + 2)]) (L0 := [some (.int 1), some (.int (nI t))]) dX0_termYielded_131 rfl km_X7_carePlace kk_X0_87 rfl ⟨rfl, by decide⟩ rfl (Nat.le_of_ble_eq_true rfl) (Nat.zero_add _) (Nat.zero_add _) rfl ?_
      refine aw_iload_n (npc := 1) rfl dX7_carePlace_0 rfl ?_
      refine aw_iconst (npc := 2) (v := 4) (by decide) dX7_carePlace_1 rfl ?_
      refine aw_imulV (npc := 3) (v := 4) dX7_carePlace_2 rfl (by decide) ?_
      refine aw_iload_n (npc := 4) rfl dX7_carePlace_3 rfl ?_
      refine aw_iaddV (npc := 5) (v := nI (4 + t)) dX7_carePlace_4 rfl (nI_add 4 _) ?_
      refine aw_iret rfl dX7_carePlace_5 ?_
      refine aw_re (S' := [.int (nI (4 + t)), .ref (b + 2)]) rfl ?_
      refine aw_iald (npc := 135) (x := N (12 + 1 * (4 + t))) (j := (4 + t)) dX0_termYielded_134 rfl F.2.2.1 (am_ix_nI (by omega)) (tl_at (by omega)) ?_
      refine aw_istore (npc := 137) (L' := [some (.ref b), some (.int (nI f)), some (.int kd), some (.int 0), some (.int bo), some (.int 1), some (.int 1), some (.int bs), some (.int bc), some (.int (nI t)), some (.int 0), some (.int (N (12 + 1 * (4 + t))))]) dX0_termYielded_135 rfl (by decide) rfl rfl ?_
      refine aw_iload (npc := 139) rfl dX0_termYielded_137 rfl ?_
      refine aw_if_eq (npc := 142) (tgt := 177) dX0_termYielded_139 rfl (by decide) (fun _ => ?_) (fun hc => absurd (by decide) hc)
      refine aw_iinc (npc := 180) (v := nI (t + 1)) (L' := [some (.ref b), some (.int (nI f)), some (.int kd), some (.int 0), some (.int bo), some (.int 1), some (.int 1), some (.int bs), some (.int bc), some (.int (nI (t + 1))), some (.int 0), some (.int (N (12 + 1 * (4 + t))))]) dX0_termYielded_177 rfl rfl (nI_1 _) (by decide) rfl rfl ?_
      refine aw_goto (npc := 76) dX0_termYielded_180 (by decide) ?_
      refine ih (t + 1) (by omega) bs bc _ _ ?_
      have e9 : tyStp 0 1 4 N t (bs, bc) = (bs, bc) := by simp [tyStp, hc2, -Nat.one_mul, -Nat.zero_add]
      exact (congrArg (tyM 0 1 4 N m (t + 1)) e9) ▸ hq
    · refine aw_iconst (npc := 97) (v := 1) (by decide) dX0_termYielded_96 rfl ?_
      refine aw_goto (npc := 121) dX0_termYielded_97 (by decide) ?_
      refine aw_istore (npc := 123) (L' := [some (.ref b), some (.int (nI f)), some (.int kd), some (.int 0), some (.int bo), some (.int 1), some (.int 1), some (.int bs), some (.int bc), some (.int (nI t)), some (.int 1), v11]) dX0_termYielded_121 rfl (by decide) rfl rfl ?_
      refine aw_aload_n (npc := 124) rfl dX0_termYielded_123 rfl ?_
      refine aw_get (npc := 127) dX0_termYielded_124 rfl kf_X0_15 F.1 rfl ?_
      refine aw_iload (npc := 129) rfl dX0_termYielded_127 rfl ?_
      refine aw_iload (npc := 131) rfl dX0_termYielded_129 rfl ?_
      refine aw_callSN (npc := 134) (N := mX7_carePlace) (mc := 0) (ms := 0) (A := [.int 1, .int (nI t)]) (S := [.ref (b + 2)]) (L0 := [some (.int 1), some (.int (nI t))]) dX0_termYielded_131 rfl km_X7_carePlace kk_X0_87 rfl ⟨rfl, by decide⟩ rfl (Nat.le_of_ble_eq_true rfl) (Nat.zero_add _) (Nat.zero_add _) rfl ?_
      refine aw_iload_n (npc := 1) rfl dX7_carePlace_0 rfl ?_
      refine aw_iconst (npc := 2) (v := 4) (by decide) dX7_carePlace_1 rfl ?_
      refine aw_imulV (npc := 3) (v := 4) dX7_carePlace_2 rfl (by decide) ?_
      refine aw_iload_n (npc := 4) rfl dX7_carePlace_3 rfl ?_
      refine aw_iaddV (npc := 5) (v := nI (4 + t)) dX7_carePlace_4 rfl (nI_add 4 _) ?_
      refine aw_iret rfl dX7_carePlace_5 ?_
      refine aw_re (S' := [.int (nI (4 + t)), .ref (b + 2)]) rfl ?_
      refine aw_iald (npc := 135) (x := N (12 + 1 * (4 + t))) (j := (4 + t)) dX0_termYielded_134 rfl F.2.2.1 (am_ix_nI (by omega)) (tl_at (by omega)) ?_
      refine aw_istore (npc := 137) (L' := [some (.ref b), some (.int (nI f)), some (.int kd), some (.int 0), some (.int bo), some (.int 1), some (.int 1), some (.int bs), some (.int bc), some (.int (nI t)), some (.int 1), some (.int (N (12 + 1 * (4 + t))))]) dX0_termYielded_135 rfl (by decide) rfl rfl ?_
      refine aw_iload (npc := 139) rfl dX0_termYielded_137 rfl ?_
      refine aw_if_eq (npc := 142) (tgt := 177) dX0_termYielded_139 rfl (by decide) (fun hc => absurd hc (by decide)) (fun _ => ?_)
      refine aw_iload (npc := 144) rfl dX0_termYielded_142 rfl ?_
      refine aw_if_lt (npc := 147) (tgt := 169) dX0_termYielded_144 rfl (by decide) (fun hc3 => ?_) (fun hc3 => ?_)
      · refine aw_iload (npc := 171) rfl dX0_termYielded_169 rfl ?_
        refine aw_istore (npc := 173) (L' := [some (.ref b), some (.int (nI f)), some (.int kd), some (.int 0), some (.int bo), some (.int 1), some (.int 1), some (.int (nI t)), some (.int bc), some (.int (nI t)), some (.int 1), some (.int (N (12 + 1 * (4 + t))))]) dX0_termYielded_171 rfl (by decide) rfl rfl ?_
        refine aw_iload (npc := 175) rfl dX0_termYielded_173 rfl ?_
        refine aw_istore (npc := 177) (L' := [some (.ref b), some (.int (nI f)), some (.int kd), some (.int 0), some (.int bo), some (.int 1), some (.int 1), some (.int (nI t)), some (.int (N (12 + 1 * (4 + t)))), some (.int (nI t)), some (.int 1), some (.int (N (12 + 1 * (4 + t))))]) dX0_termYielded_175 rfl (by decide) rfl rfl ?_
        refine aw_iinc (npc := 180) (v := nI (t + 1)) (L' := [some (.ref b), some (.int (nI f)), some (.int kd), some (.int 0), some (.int bo), some (.int 1), some (.int 1), some (.int (nI t)), some (.int (N (12 + 1 * (4 + t)))), some (.int (nI (t + 1))), some (.int 1), some (.int (N (12 + 1 * (4 + t))))]) dX0_termYielded_177 rfl rfl (nI_1 _) (by decide) rfl rfl ?_
        refine aw_goto (npc := 76) dX0_termYielded_180 (by decide) ?_
        refine ih (t + 1) (by omega) (nI t) (N (12 + 1 * (4 + t))) _ _ ?_
        have e9 : tyStp 0 1 4 N t (bs, bc) = (nI t, N (12 + 1 * (4 + t))) := by simp [tyStp, hc2, hc3, -Nat.one_mul, -Nat.zero_add]
        exact (congrArg (tyM 0 1 4 N m (t + 1)) e9) ▸ hq
      · refine aw_iload (npc := 149) rfl dX0_termYielded_147 rfl ?_
        refine aw_if_eq (npc := 152) (tgt := 162) dX0_termYielded_149 rfl (by decide) (fun hc => absurd hc (by decide)) (fun _ => ?_)
        refine aw_iload (npc := 154) rfl dX0_termYielded_152 rfl ?_
        refine aw_iload (npc := 156) rfl dX0_termYielded_154 rfl ?_
        refine aw_icmp_le (npc := 159) (tgt := 177) dX0_termYielded_156 rfl (by decide) (fun hc4 => ?_) (fun hc4 => ?_)
        · refine aw_iinc (npc := 180) (v := nI (t + 1)) (L' := [some (.ref b), some (.int (nI f)), some (.int kd), some (.int 0), some (.int bo), some (.int 1), some (.int 1), some (.int bs), some (.int bc), some (.int (nI (t + 1))), some (.int 1), some (.int (N (12 + 1 * (4 + t))))]) dX0_termYielded_177 rfl rfl (nI_1 _) (by decide) rfl rfl ?_
          refine aw_goto (npc := 76) dX0_termYielded_180 (by decide) ?_
          refine ih (t + 1) (by omega) bs bc _ _ ?_
          have e9 : tyStp 0 1 4 N t (bs, bc) = (bs, bc) := by simp [tyStp, hc2, hc3, hc4, -Nat.one_mul, -Nat.zero_add]
          exact (congrArg (tyM 0 1 4 N m (t + 1)) e9) ▸ hq
        · refine aw_goto (npc := 169) dX0_termYielded_159 (by decide) ?_
          refine aw_iload (npc := 171) rfl dX0_termYielded_169 rfl ?_
          refine aw_istore (npc := 173) (L' := [some (.ref b), some (.int (nI f)), some (.int kd), some (.int 0), some (.int bo), some (.int 1), some (.int 1), some (.int (nI t)), some (.int bc), some (.int (nI t)), some (.int 1), some (.int (N (12 + 1 * (4 + t))))]) dX0_termYielded_171 rfl (by decide) rfl rfl ?_
          refine aw_iload (npc := 175) rfl dX0_termYielded_173 rfl ?_
          refine aw_istore (npc := 177) (L' := [some (.ref b), some (.int (nI f)), some (.int kd), some (.int 0), some (.int bo), some (.int 1), some (.int 1), some (.int (nI t)), some (.int (N (12 + 1 * (4 + t)))), some (.int (nI t)), some (.int 1), some (.int (N (12 + 1 * (4 + t))))]) dX0_termYielded_175 rfl (by decide) rfl rfl ?_
          refine aw_iinc (npc := 180) (v := nI (t + 1)) (L' := [some (.ref b), some (.int (nI f)), some (.int kd), some (.int 0), some (.int bo), some (.int 1), some (.int 1), some (.int (nI t)), some (.int (N (12 + 1 * (4 + t)))), some (.int (nI (t + 1))), some (.int 1), some (.int (N (12 + 1 * (4 + t))))]) dX0_termYielded_177 rfl rfl (nI_1 _) (by decide) rfl rfl ?_
          refine aw_goto (npc := 76) dX0_termYielded_180 (by decide) ?_
          refine ih (t + 1) (by omega) (nI t) (N (12 + 1 * (4 + t))) _ _ ?_
          have e9 : tyStp 0 1 4 N t (bs, bc) = (nI t, N (12 + 1 * (4 + t))) := by simp [tyStp, hc2, hc3, hc4, -Nat.one_mul, -Nat.zero_add]
          exact (congrArg (tyM 0 1 4 N m (t + 1)) e9) ▸ hq
set_option maxHeartbeats 4000000 in
set_option maxRecDepth 100000 in
theorem g_tyL100 {X : List Int32} {d rc rs n : Nat} {Q : am_Q} {b : Nat} {N : Nat → Int32} {tx : List Value} {lk mv : Nat → Int32} {h : am_H} {f : Nat} {kd bo : Int32} (F : QR b N tx lk mv h) : ∀ (m t : Nat), t + m = 4 → ∀ (bs bc : Int32) (v10 v11 : Option Value), Q (some (.int (tyM 1 0 0 N m t (bs, bc)).1)) n h → AW X mX0_termYielded (d + 3) rc rs 76 [some (.ref b), some (.int (nI f)), some (.int kd), some (.int 1), some (.int bo), some (.int 0), some (.int 0), some (.int bs), some (.int bc), some (.int (nI t)), v10, v11] [] n h Q := by
  intro m
  induction m with
  | zero =>
    intro t ht bs bc v10 v11 hq
    obtain rfl : t = 4 := by omega
    refine aw_iload (npc := 78) rfl dX0_termYielded_76 rfl ?_
    refine aw_iconst (npc := 79) (v := 4) (by decide) dX0_termYielded_78 rfl ?_
    refine aw_icmp_ge (npc := 82) (tgt := 183) dX0_termYielded_79 rfl (by decide) (fun _ => ?_) (fun hc => absurd (nI_le (a := 4) (b := 4) (by omega) (by omega)) hc)
    refine aw_iload (npc := 185) rfl dX0_termYielded_183 rfl ?_
    refine aw_iret rfl dX0_termYielded_185 ?_
    exact hq
  | succ m ih =>
    intro t ht bs bc v10 v11 hq
    refine aw_iload (npc := 78) rfl dX0_termYielded_76 rfl ?_
    refine aw_iconst (npc := 79) (v := 4) (by decide) dX0_termYielded_78 rfl ?_
    refine aw_icmp_ge (npc := 82) (tgt := 183) dX0_termYielded_79 rfl (by decide) (fun hc => absurd hc (nI_ge (a := t) (b := 4) (by omega) (by omega))) (fun _ => ?_)
    refine aw_iload_n (npc := 83) rfl dX0_termYielded_82 rfl ?_
    refine aw_if_ne (npc := 86) (tgt := 104) dX0_termYielded_83 rfl (by decide) (fun _ => ?_) (fun hc => absurd hc (by decide))
    refine aw_aload_n (npc := 105) rfl dX0_termYielded_104 rfl ?_
    refine aw_get (npc := 108) dX0_termYielded_105 rfl kf_X0_9 F.1 rfl ?_
    refine aw_iload (npc := 110) rfl dX0_termYielded_108 rfl ?_
    refine aw_iald (npc := 111) (x := N (8 + 1 * t)) (j := t) dX0_termYielded_110 rfl F.2.1 (am_ix_nI (by omega)) (tl_at (by omega)) ?_
    refine aw_bipush (npc := 113) (v := 9) (by decide) dX0_termYielded_111 rfl ?_
    refine aw_icmp_ge (npc := 116) (tgt := 120) dX0_termYielded_113 rfl (by decide) (fun hc2 => ?_) (fun hc2 => ?_)
    · refine aw_iconst (npc := 121) (v := 0) (by decide) dX0_termYielded_120 rfl ?_
      refine aw_istore (npc := 123) (L' := [some (.ref b), some (.int (nI f)), some (.int kd), some (.int 1), some (.int bo), some (.int 0), some (.int 0), some (.int bs), some (.int bc), some (.int (nI t)), some (.int 0), v11]) dX0_termYielded_121 rfl (by decide) rfl rfl ?_
      refine aw_aload_n (npc := 124) rfl dX0_termYielded_123 rfl ?_
      refine aw_get (npc := 127) dX0_termYielded_124 rfl kf_X0_15 F.1 rfl ?_
      refine aw_iload (npc := 129) rfl dX0_termYielded_127 rfl ?_
      refine aw_iload (npc := 131) rfl dX0_termYielded_129 rfl ?_
      refine aw_callSN (npc := 134) (N := mX7_carePlace) (mc := 0) (ms := 0) (A := [.int 0, .int (nI t)]) (S := [.ref (b + 2)]) (L0 := [some (.int 0), some (.int (nI t))]) dX0_termYielded_131 rfl km_X7_carePlace kk_X0_87 rfl ⟨rfl, by decide⟩ rfl (Nat.le_of_ble_eq_true rfl) (Nat.zero_add _) (Nat.zero_add _) rfl ?_
      refine aw_iload_n (npc := 1) rfl dX7_carePlace_0 rfl ?_
      refine aw_iconst (npc := 2) (v := 4) (by decide) dX7_carePlace_1 rfl ?_
      refine aw_imulV (npc := 3) (v := 0) dX7_carePlace_2 rfl (by decide) ?_
      refine aw_iload_n (npc := 4) rfl dX7_carePlace_3 rfl ?_
      refine aw_iaddV (npc := 5) (v := nI (0 + t)) dX7_carePlace_4 rfl (nI_add 0 _) ?_
      refine aw_iret rfl dX7_carePlace_5 ?_
      refine aw_re (S' := [.int (nI (0 + t)), .ref (b + 2)]) rfl ?_
      refine aw_iald (npc := 135) (x := N (12 + 1 * (0 + t))) (j := (0 + t)) dX0_termYielded_134 rfl F.2.2.1 (am_ix_nI (by omega)) (tl_at (by omega)) ?_
      refine aw_istore (npc := 137) (L' := [some (.ref b), some (.int (nI f)), some (.int kd), some (.int 1), some (.int bo), some (.int 0), some (.int 0), some (.int bs), some (.int bc), some (.int (nI t)), some (.int 0), some (.int (N (12 + 1 * (0 + t))))]) dX0_termYielded_135 rfl (by decide) rfl rfl ?_
      refine aw_iload (npc := 139) rfl dX0_termYielded_137 rfl ?_
      refine aw_if_eq (npc := 142) (tgt := 177) dX0_termYielded_139 rfl (by decide) (fun _ => ?_) (fun hc => absurd (by decide) hc)
      refine aw_iinc (npc := 180) (v := nI (t + 1)) (L' := [some (.ref b), some (.int (nI f)), some (.int kd), some (.int 1), some (.int bo), some (.int 0), some (.int 0), some (.int bs), some (.int bc), some (.int (nI (t + 1))), some (.int 0), some (.int (N (12 + 1 * (0 + t))))]) dX0_termYielded_177 rfl rfl (nI_1 _) (by decide) rfl rfl ?_
      refine aw_goto (npc := 76) dX0_termYielded_180 (by decide) ?_
      refine ih (t + 1) (by omega) bs bc _ _ ?_
      have e9 : tyStp 1 0 0 N t (bs, bc) = (bs, bc) := by simp [tyStp, hc2, -Nat.one_mul, -Nat.zero_add]
      exact (congrArg (tyM 1 0 0 N m (t + 1)) e9) ▸ hq
    · refine aw_iconst (npc := 117) (v := 1) (by decide) dX0_termYielded_116 rfl ?_
      refine aw_goto (npc := 121) dX0_termYielded_117 (by decide) ?_
      refine aw_istore (npc := 123) (L' := [some (.ref b), some (.int (nI f)), some (.int kd), some (.int 1), some (.int bo), some (.int 0), some (.int 0), some (.int bs), some (.int bc), some (.int (nI t)), some (.int 1), v11]) dX0_termYielded_121 rfl (by decide) rfl rfl ?_
      refine aw_aload_n (npc := 124) rfl dX0_termYielded_123 rfl ?_
      refine aw_get (npc := 127) dX0_termYielded_124 rfl kf_X0_15 F.1 rfl ?_
      refine aw_iload (npc := 129) rfl dX0_termYielded_127 rfl ?_
      refine aw_iload (npc := 131) rfl dX0_termYielded_129 rfl ?_
      refine aw_callSN (npc := 134) (N := mX7_carePlace) (mc := 0) (ms := 0) (A := [.int 0, .int (nI t)]) (S := [.ref (b + 2)]) (L0 := [some (.int 0), some (.int (nI t))]) dX0_termYielded_131 rfl km_X7_carePlace kk_X0_87 rfl ⟨rfl, by decide⟩ rfl (Nat.le_of_ble_eq_true rfl) (Nat.zero_add _) (Nat.zero_add _) rfl ?_
      refine aw_iload_n (npc := 1) rfl dX7_carePlace_0 rfl ?_
      refine aw_iconst (npc := 2) (v := 4) (by decide) dX7_carePlace_1 rfl ?_
      refine aw_imulV (npc := 3) (v := 0) dX7_carePlace_2 rfl (by decide) ?_
      refine aw_iload_n (npc := 4) rfl dX7_carePlace_3 rfl ?_
      refine aw_iaddV (npc := 5) (v := nI (0 + t)) dX7_carePlace_4 rfl (nI_add 0 _) ?_
      refine aw_iret rfl dX7_carePlace_5 ?_
      refine aw_re (S' := [.int (nI (0 + t)), .ref (b + 2)]) rfl ?_
      refine aw_iald (npc := 135) (x := N (12 + 1 * (0 + t))) (j := (0 + t)) dX0_termYielded_134 rfl F.2.2.1 (am_ix_nI (by omega)) (tl_at (by omega)) ?_
      refine aw_istore (npc := 137) (L' := [some (.ref b), some (.int (nI f)), some (.int kd), some (.int 1), some (.int bo), some (.int 0), some (.int 0), some (.int bs), some (.int bc), some (.int (nI t)), some (.int 1), some (.int (N (12 + 1 * (0 + t))))]) dX0_termYielded_135 rfl (by decide) rfl rfl ?_
      refine aw_iload (npc := 139) rfl dX0_termYielded_137 rfl ?_
      refine aw_if_eq (npc := 142) (tgt := 177) dX0_termYielded_139 rfl (by decide) (fun hc => absurd hc (by decide)) (fun _ => ?_)
      refine aw_iload (npc := 144) rfl dX0_termYielded_142 rfl ?_
      refine aw_if_lt (npc := 147) (tgt := 169) dX0_termYielded_144 rfl (by decide) (fun hc3 => ?_) (fun hc3 => ?_)
      · refine aw_iload (npc := 171) rfl dX0_termYielded_169 rfl ?_
        refine aw_istore (npc := 173) (L' := [some (.ref b), some (.int (nI f)), some (.int kd), some (.int 1), some (.int bo), some (.int 0), some (.int 0), some (.int (nI t)), some (.int bc), some (.int (nI t)), some (.int 1), some (.int (N (12 + 1 * (0 + t))))]) dX0_termYielded_171 rfl (by decide) rfl rfl ?_
        refine aw_iload (npc := 175) rfl dX0_termYielded_173 rfl ?_
        refine aw_istore (npc := 177) (L' := [some (.ref b), some (.int (nI f)), some (.int kd), some (.int 1), some (.int bo), some (.int 0), some (.int 0), some (.int (nI t)), some (.int (N (12 + 1 * (0 + t)))), some (.int (nI t)), some (.int 1), some (.int (N (12 + 1 * (0 + t))))]) dX0_termYielded_175 rfl (by decide) rfl rfl ?_
        refine aw_iinc (npc := 180) (v := nI (t + 1)) (L' := [some (.ref b), some (.int (nI f)), some (.int kd), some (.int 1), some (.int bo), some (.int 0), some (.int 0), some (.int (nI t)), some (.int (N (12 + 1 * (0 + t)))), some (.int (nI (t + 1))), some (.int 1), some (.int (N (12 + 1 * (0 + t))))]) dX0_termYielded_177 rfl rfl (nI_1 _) (by decide) rfl rfl ?_
        refine aw_goto (npc := 76) dX0_termYielded_180 (by decide) ?_
        refine ih (t + 1) (by omega) (nI t) (N (12 + 1 * (0 + t))) _ _ ?_
        have e9 : tyStp 1 0 0 N t (bs, bc) = (nI t, N (12 + 1 * (0 + t))) := by simp [tyStp, hc2, hc3, -Nat.one_mul, -Nat.zero_add]
        exact (congrArg (tyM 1 0 0 N m (t + 1)) e9) ▸ hq
      · refine aw_iload (npc := 149) rfl dX0_termYielded_147 rfl ?_
        refine aw_if_eq (npc := 152) (tgt := 162) dX0_termYielded_149 rfl (by decide) (fun _ => ?_) (fun hc => absurd (by decide) hc)
        refine aw_iload (npc := 164) rfl dX0_termYielded_162 rfl ?_
        refine aw_iload (npc := 166) rfl dX0_termYielded_164 rfl ?_
        refine aw_icmp_ge (npc := 169) (tgt := 177) dX0_termYielded_166 rfl (by decide) (fun hc4 => ?_) (fun hc4 => ?_)
        · refine aw_iinc (npc := 180) (v := nI (t + 1)) (L' := [some (.ref b), some (.int (nI f)), some (.int kd), some (.int 1), some (.int bo), some (.int 0), some (.int 0), some (.int bs), some (.int bc), some (.int (nI (t + 1))), some (.int 1), some (.int (N (12 + 1 * (0 + t))))]) dX0_termYielded_177 rfl rfl (nI_1 _) (by decide) rfl rfl ?_
          refine aw_goto (npc := 76) dX0_termYielded_180 (by decide) ?_
          refine ih (t + 1) (by omega) bs bc _ _ ?_
          have e9 : tyStp 1 0 0 N t (bs, bc) = (bs, bc) := by simp [tyStp, hc2, hc3, hc4, -Nat.one_mul, -Nat.zero_add]
          exact (congrArg (tyM 1 0 0 N m (t + 1)) e9) ▸ hq
        · refine aw_iload (npc := 171) rfl dX0_termYielded_169 rfl ?_
          refine aw_istore (npc := 173) (L' := [some (.ref b), some (.int (nI f)), some (.int kd), some (.int 1), some (.int bo), some (.int 0), some (.int 0), some (.int (nI t)), some (.int bc), some (.int (nI t)), some (.int 1), some (.int (N (12 + 1 * (0 + t))))]) dX0_termYielded_171 rfl (by decide) rfl rfl ?_
          refine aw_iload (npc := 175) rfl dX0_termYielded_173 rfl ?_
          refine aw_istore (npc := 177) (L' := [some (.ref b), some (.int (nI f)), some (.int kd), some (.int 1), some (.int bo), some (.int 0), some (.int 0), some (.int (nI t)), some (.int (N (12 + 1 * (0 + t)))), some (.int (nI t)), some (.int 1), some (.int (N (12 + 1 * (0 + t))))]) dX0_termYielded_175 rfl (by decide) rfl rfl ?_
          refine aw_iinc (npc := 180) (v := nI (t + 1)) (L' := [some (.ref b), some (.int (nI f)), some (.int kd), some (.int 1), some (.int bo), some (.int 0), some (.int 0), some (.int (nI t)), some (.int (N (12 + 1 * (0 + t)))), some (.int (nI (t + 1))), some (.int 1), some (.int (N (12 + 1 * (0 + t))))]) dX0_termYielded_177 rfl rfl (nI_1 _) (by decide) rfl rfl ?_
          refine aw_goto (npc := 76) dX0_termYielded_180 (by decide) ?_
          refine ih (t + 1) (by omega) (nI t) (N (12 + 1 * (0 + t))) _ _ ?_
          have e9 : tyStp 1 0 0 N t (bs, bc) = (nI t, N (12 + 1 * (0 + t))) := by simp [tyStp, hc2, hc3, hc4, -Nat.one_mul, -Nat.zero_add]
          exact (congrArg (tyM 1 0 0 N m (t + 1)) e9) ▸ hq
set_option maxHeartbeats 4000000 in
set_option maxRecDepth 100000 in
theorem g_tyL101 {X : List Int32} {d rc rs n : Nat} {Q : am_Q} {b : Nat} {N : Nat → Int32} {tx : List Value} {lk mv : Nat → Int32} {h : am_H} {f : Nat} {kd bo : Int32} (F : QR b N tx lk mv h) : ∀ (m t : Nat), t + m = 4 → ∀ (bs bc : Int32) (v10 v11 : Option Value), Q (some (.int (tyM 1 0 4 N m t (bs, bc)).1)) n h → AW X mX0_termYielded (d + 3) rc rs 76 [some (.ref b), some (.int (nI f)), some (.int kd), some (.int 1), some (.int bo), some (.int 0), some (.int 1), some (.int bs), some (.int bc), some (.int (nI t)), v10, v11] [] n h Q := by
  intro m
  induction m with
  | zero =>
    intro t ht bs bc v10 v11 hq
    obtain rfl : t = 4 := by omega
    refine aw_iload (npc := 78) rfl dX0_termYielded_76 rfl ?_
    refine aw_iconst (npc := 79) (v := 4) (by decide) dX0_termYielded_78 rfl ?_
    refine aw_icmp_ge (npc := 82) (tgt := 183) dX0_termYielded_79 rfl (by decide) (fun _ => ?_) (fun hc => absurd (nI_le (a := 4) (b := 4) (by omega) (by omega)) hc)
    refine aw_iload (npc := 185) rfl dX0_termYielded_183 rfl ?_
    refine aw_iret rfl dX0_termYielded_185 ?_
    exact hq
  | succ m ih =>
    intro t ht bs bc v10 v11 hq
    refine aw_iload (npc := 78) rfl dX0_termYielded_76 rfl ?_
    refine aw_iconst (npc := 79) (v := 4) (by decide) dX0_termYielded_78 rfl ?_
    refine aw_icmp_ge (npc := 82) (tgt := 183) dX0_termYielded_79 rfl (by decide) (fun hc => absurd hc (nI_ge (a := t) (b := 4) (by omega) (by omega))) (fun _ => ?_)
    refine aw_iload_n (npc := 83) rfl dX0_termYielded_82 rfl ?_
    refine aw_if_ne (npc := 86) (tgt := 104) dX0_termYielded_83 rfl (by decide) (fun _ => ?_) (fun hc => absurd hc (by decide))
    refine aw_aload_n (npc := 105) rfl dX0_termYielded_104 rfl ?_
    refine aw_get (npc := 108) dX0_termYielded_105 rfl kf_X0_9 F.1 rfl ?_
    refine aw_iload (npc := 110) rfl dX0_termYielded_108 rfl ?_
    refine aw_iald (npc := 111) (x := N (8 + 1 * t)) (j := t) dX0_termYielded_110 rfl F.2.1 (am_ix_nI (by omega)) (tl_at (by omega)) ?_
    refine aw_bipush (npc := 113) (v := 9) (by decide) dX0_termYielded_111 rfl ?_
    refine aw_icmp_ge (npc := 116) (tgt := 120) dX0_termYielded_113 rfl (by decide) (fun hc2 => ?_) (fun hc2 => ?_)
    · refine aw_iconst (npc := 121) (v := 0) (by decide) dX0_termYielded_120 rfl ?_
      refine aw_istore (npc := 123) (L' := [some (.ref b), some (.int (nI f)), some (.int kd), some (.int 1), some (.int bo), some (.int 0), some (.int 1), some (.int bs), some (.int bc), some (.int (nI t)), some (.int 0), v11]) dX0_termYielded_121 rfl (by decide) rfl rfl ?_
      refine aw_aload_n (npc := 124) rfl dX0_termYielded_123 rfl ?_
      refine aw_get (npc := 127) dX0_termYielded_124 rfl kf_X0_15 F.1 rfl ?_
      refine aw_iload (npc := 129) rfl dX0_termYielded_127 rfl ?_
      refine aw_iload (npc := 131) rfl dX0_termYielded_129 rfl ?_
      refine aw_callSN (npc := 134) (N := mX7_carePlace) (mc := 0) (ms := 0) (A := [.int 1, .int (nI t)]) (S := [.ref (b + 2)]) (L0 := [some (.int 1), some (.int (nI t))]) dX0_termYielded_131 rfl km_X7_carePlace kk_X0_87 rfl ⟨rfl, by decide⟩ rfl (Nat.le_of_ble_eq_true rfl) (Nat.zero_add _) (Nat.zero_add _) rfl ?_
      refine aw_iload_n (npc := 1) rfl dX7_carePlace_0 rfl ?_
      refine aw_iconst (npc := 2) (v := 4) (by decide) dX7_carePlace_1 rfl ?_
      refine aw_imulV (npc := 3) (v := 4) dX7_carePlace_2 rfl (by decide) ?_
      refine aw_iload_n (npc := 4) rfl dX7_carePlace_3 rfl ?_
      refine aw_iaddV (npc := 5) (v := nI (4 + t)) dX7_carePlace_4 rfl (nI_add 4 _) ?_
      refine aw_iret rfl dX7_carePlace_5 ?_
      refine aw_re (S' := [.int (nI (4 + t)), .ref (b + 2)]) rfl ?_
      refine aw_iald (npc := 135) (x := N (12 + 1 * (4 + t))) (j := (4 + t)) dX0_termYielded_134 rfl F.2.2.1 (am_ix_nI (by omega)) (tl_at (by omega)) ?_
      refine aw_istore (npc := 137) (L' := [some (.ref b), some (.int (nI f)), some (.int kd), some (.int 1), some (.int bo), some (.int 0), some (.int 1), some (.int bs), some (.int bc), some (.int (nI t)), some (.int 0), some (.int (N (12 + 1 * (4 + t))))]) dX0_termYielded_135 rfl (by decide) rfl rfl ?_
      refine aw_iload (npc := 139) rfl dX0_termYielded_137 rfl ?_
      refine aw_if_eq (npc := 142) (tgt := 177) dX0_termYielded_139 rfl (by decide) (fun _ => ?_) (fun hc => absurd (by decide) hc)
      refine aw_iinc (npc := 180) (v := nI (t + 1)) (L' := [some (.ref b), some (.int (nI f)), some (.int kd), some (.int 1), some (.int bo), some (.int 0), some (.int 1), some (.int bs), some (.int bc), some (.int (nI (t + 1))), some (.int 0), some (.int (N (12 + 1 * (4 + t))))]) dX0_termYielded_177 rfl rfl (nI_1 _) (by decide) rfl rfl ?_
      refine aw_goto (npc := 76) dX0_termYielded_180 (by decide) ?_
      refine ih (t + 1) (by omega) bs bc _ _ ?_
      have e9 : tyStp 1 0 4 N t (bs, bc) = (bs, bc) := by simp [tyStp, hc2, -Nat.one_mul, -Nat.zero_add]
      exact (congrArg (tyM 1 0 4 N m (t + 1)) e9) ▸ hq
    · refine aw_iconst (npc := 117) (v := 1) (by decide) dX0_termYielded_116 rfl ?_
      refine aw_goto (npc := 121) dX0_termYielded_117 (by decide) ?_
      refine aw_istore (npc := 123) (L' := [some (.ref b), some (.int (nI f)), some (.int kd), some (.int 1), some (.int bo), some (.int 0), some (.int 1), some (.int bs), some (.int bc), some (.int (nI t)), some (.int 1), v11]) dX0_termYielded_121 rfl (by decide) rfl rfl ?_
      refine aw_aload_n (npc := 124) rfl dX0_termYielded_123 rfl ?_
      refine aw_get (npc := 127) dX0_termYielded_124 rfl kf_X0_15 F.1 rfl ?_
      refine aw_iload (npc := 129) rfl dX0_termYielded_127 rfl ?_
      refine aw_iload (npc := 131) rfl dX0_termYielded_129 rfl ?_
      refine aw_callSN (npc := 134) (N := mX7_carePlace) (mc := 0) (ms := 0) (A := [.int 1, .int (nI t)]) (S := [.ref (b + 2)]) (L0 := [some (.int 1), some (.int (nI t))]) dX0_termYielded_131 rfl km_X7_carePlace kk_X0_87 rfl ⟨rfl, by decide⟩ rfl (Nat.le_of_ble_eq_true rfl) (Nat.zero_add _) (Nat.zero_add _) rfl ?_
      refine aw_iload_n (npc := 1) rfl dX7_carePlace_0 rfl ?_
      refine aw_iconst (npc := 2) (v := 4) (by decide) dX7_carePlace_1 rfl ?_
      refine aw_imulV (npc := 3) (v := 4) dX7_carePlace_2 rfl (by decide) ?_
      refine aw_iload_n (npc := 4) rfl dX7_carePlace_3 rfl ?_
      refine aw_iaddV (npc := 5) (v := nI (4 + t)) dX7_carePlace_4 rfl (nI_add 4 _) ?_
      refine aw_iret rfl dX7_carePlace_5 ?_
      refine aw_re (S' := [.int (nI (4 + t)), .ref (b + 2)]) rfl ?_
      refine aw_iald (npc := 135) (x := N (12 + 1 * (4 + t))) (j := (4 + t)) dX0_termYielded_134 rfl F.2.2.1 (am_ix_nI (by omega)) (tl_at (by omega)) ?_
      refine aw_istore (npc := 137) (L' := [some (.ref b), some (.int (nI f)), some (.int kd), some (.int 1), some (.int bo), some (.int 0), some (.int 1), some (.int bs), some (.int bc), some (.int (nI t)), some (.int 1), some (.int (N (12 + 1 * (4 + t))))]) dX0_termYielded_135 rfl (by decide) rfl rfl ?_
      refine aw_iload (npc := 139) rfl dX0_termYielded_137 rfl ?_
      refine aw_if_eq (npc := 142) (tgt := 177) dX0_termYielded_139 rfl (by decide) (fun hc => absurd hc (by decide)) (fun _ => ?_)
      refine aw_iload (npc := 144) rfl dX0_termYielded_142 rfl ?_
      refine aw_if_lt (npc := 147) (tgt := 169) dX0_termYielded_144 rfl (by decide) (fun hc3 => ?_) (fun hc3 => ?_)
      · refine aw_iload (npc := 171) rfl dX0_termYielded_169 rfl ?_
        refine aw_istore (npc := 173) (L' := [some (.ref b), some (.int (nI f)), some (.int kd), some (.int 1), some (.int bo), some (.int 0), some (.int 1), some (.int (nI t)), some (.int bc), some (.int (nI t)), some (.int 1), some (.int (N (12 + 1 * (4 + t))))]) dX0_termYielded_171 rfl (by decide) rfl rfl ?_
        refine aw_iload (npc := 175) rfl dX0_termYielded_173 rfl ?_
        refine aw_istore (npc := 177) (L' := [some (.ref b), some (.int (nI f)), some (.int kd), some (.int 1), some (.int bo), some (.int 0), some (.int 1), some (.int (nI t)), some (.int (N (12 + 1 * (4 + t)))), some (.int (nI t)), some (.int 1), some (.int (N (12 + 1 * (4 + t))))]) dX0_termYielded_175 rfl (by decide) rfl rfl ?_
        refine aw_iinc (npc := 180) (v := nI (t + 1)) (L' := [some (.ref b), some (.int (nI f)), some (.int kd), some (.int 1), some (.int bo), some (.int 0), some (.int 1), some (.int (nI t)), some (.int (N (12 + 1 * (4 + t)))), some (.int (nI (t + 1))), some (.int 1), some (.int (N (12 + 1 * (4 + t))))]) dX0_termYielded_177 rfl rfl (nI_1 _) (by decide) rfl rfl ?_
        refine aw_goto (npc := 76) dX0_termYielded_180 (by decide) ?_
        refine ih (t + 1) (by omega) (nI t) (N (12 + 1 * (4 + t))) _ _ ?_
        have e9 : tyStp 1 0 4 N t (bs, bc) = (nI t, N (12 + 1 * (4 + t))) := by simp [tyStp, hc2, hc3, -Nat.one_mul, -Nat.zero_add]
        exact (congrArg (tyM 1 0 4 N m (t + 1)) e9) ▸ hq
      · refine aw_iload (npc := 149) rfl dX0_termYielded_147 rfl ?_
        refine aw_if_eq (npc := 152) (tgt := 162) dX0_termYielded_149 rfl (by decide) (fun _ => ?_) (fun hc => absurd (by decide) hc)
        refine aw_iload (npc := 164) rfl dX0_termYielded_162 rfl ?_
        refine aw_iload (npc := 166) rfl dX0_termYielded_164 rfl ?_
        refine aw_icmp_ge (npc := 169) (tgt := 177) dX0_termYielded_166 rfl (by decide) (fun hc4 => ?_) (fun hc4 => ?_)
        · refine aw_iinc (npc := 180) (v := nI (t + 1)) (L' := [some (.ref b), some (.int (nI f)), some (.int kd), some (.int 1), some (.int bo), some (.int 0), some (.int 1), some (.int bs), some (.int bc), some (.int (nI (t + 1))), some (.int 1), some (.int (N (12 + 1 * (4 + t))))]) dX0_termYielded_177 rfl rfl (nI_1 _) (by decide) rfl rfl ?_
          refine aw_goto (npc := 76) dX0_termYielded_180 (by decide) ?_
          refine ih (t + 1) (by omega) bs bc _ _ ?_
          have e9 : tyStp 1 0 4 N t (bs, bc) = (bs, bc) := by simp [tyStp, hc2, hc3, hc4, -Nat.one_mul, -Nat.zero_add]
          exact (congrArg (tyM 1 0 4 N m (t + 1)) e9) ▸ hq
        · refine aw_iload (npc := 171) rfl dX0_termYielded_169 rfl ?_
          refine aw_istore (npc := 173) (L' := [some (.ref b), some (.int (nI f)), some (.int kd), some (.int 1), some (.int bo), some (.int 0), some (.int 1), some (.int (nI t)), some (.int bc), some (.int (nI t)), some (.int 1), some (.int (N (12 + 1 * (4 + t))))]) dX0_termYielded_171 rfl (by decide) rfl rfl ?_
          refine aw_iload (npc := 175) rfl dX0_termYielded_173 rfl ?_
          refine aw_istore (npc := 177) (L' := [some (.ref b), some (.int (nI f)), some (.int kd), some (.int 1), some (.int bo), some (.int 0), some (.int 1), some (.int (nI t)), some (.int (N (12 + 1 * (4 + t)))), some (.int (nI t)), some (.int 1), some (.int (N (12 + 1 * (4 + t))))]) dX0_termYielded_175 rfl (by decide) rfl rfl ?_
          refine aw_iinc (npc := 180) (v := nI (t + 1)) (L' := [some (.ref b), some (.int (nI f)), some (.int kd), some (.int 1), some (.int bo), some (.int 0), some (.int 1), some (.int (nI t)), some (.int (N (12 + 1 * (4 + t)))), some (.int (nI (t + 1))), some (.int 1), some (.int (N (12 + 1 * (4 + t))))]) dX0_termYielded_177 rfl rfl (nI_1 _) (by decide) rfl rfl ?_
          refine aw_goto (npc := 76) dX0_termYielded_180 (by decide) ?_
          refine ih (t + 1) (by omega) (nI t) (N (12 + 1 * (4 + t))) _ _ ?_
          have e9 : tyStp 1 0 4 N t (bs, bc) = (nI t, N (12 + 1 * (4 + t))) := by simp [tyStp, hc2, hc3, hc4, -Nat.one_mul, -Nat.zero_add]
          exact (congrArg (tyM 1 0 4 N m (t + 1)) e9) ▸ hq
set_option maxHeartbeats 4000000 in
set_option maxRecDepth 100000 in
theorem g_tyL110 {X : List Int32} {d rc rs n : Nat} {Q : am_Q} {b : Nat} {N : Nat → Int32} {tx : List Value} {lk mv : Nat → Int32} {h : am_H} {f : Nat} {kd bo : Int32} (F : QR b N tx lk mv h) : ∀ (m t : Nat), t + m = 4 → ∀ (bs bc : Int32) (v10 v11 : Option Value), Q (some (.int (tyM 1 1 0 N m t (bs, bc)).1)) n h → AW X mX0_termYielded (d + 3) rc rs 76 [some (.ref b), some (.int (nI f)), some (.int kd), some (.int 1), some (.int bo), some (.int 1), some (.int 0), some (.int bs), some (.int bc), some (.int (nI t)), v10, v11] [] n h Q := by
  intro m
  induction m with
  | zero =>
    intro t ht bs bc v10 v11 hq
    obtain rfl : t = 4 := by omega
    refine aw_iload (npc := 78) rfl dX0_termYielded_76 rfl ?_
    refine aw_iconst (npc := 79) (v := 4) (by decide) dX0_termYielded_78 rfl ?_
    refine aw_icmp_ge (npc := 82) (tgt := 183) dX0_termYielded_79 rfl (by decide) (fun _ => ?_) (fun hc => absurd (nI_le (a := 4) (b := 4) (by omega) (by omega)) hc)
    refine aw_iload (npc := 185) rfl dX0_termYielded_183 rfl ?_
    refine aw_iret rfl dX0_termYielded_185 ?_
    exact hq
  | succ m ih =>
    intro t ht bs bc v10 v11 hq
    refine aw_iload (npc := 78) rfl dX0_termYielded_76 rfl ?_
    refine aw_iconst (npc := 79) (v := 4) (by decide) dX0_termYielded_78 rfl ?_
    refine aw_icmp_ge (npc := 82) (tgt := 183) dX0_termYielded_79 rfl (by decide) (fun hc => absurd hc (nI_ge (a := t) (b := 4) (by omega) (by omega))) (fun _ => ?_)
    refine aw_iload_n (npc := 83) rfl dX0_termYielded_82 rfl ?_
    refine aw_if_ne (npc := 86) (tgt := 104) dX0_termYielded_83 rfl (by decide) (fun _ => ?_) (fun hc => absurd hc (by decide))
    refine aw_aload_n (npc := 105) rfl dX0_termYielded_104 rfl ?_
    refine aw_get (npc := 108) dX0_termYielded_105 rfl kf_X0_9 F.1 rfl ?_
    refine aw_iload (npc := 110) rfl dX0_termYielded_108 rfl ?_
    refine aw_iald (npc := 111) (x := N (8 + 1 * t)) (j := t) dX0_termYielded_110 rfl F.2.1 (am_ix_nI (by omega)) (tl_at (by omega)) ?_
    refine aw_bipush (npc := 113) (v := 9) (by decide) dX0_termYielded_111 rfl ?_
    refine aw_icmp_ge (npc := 116) (tgt := 120) dX0_termYielded_113 rfl (by decide) (fun hc2 => ?_) (fun hc2 => ?_)
    · refine aw_iconst (npc := 121) (v := 0) (by decide) dX0_termYielded_120 rfl ?_
      refine aw_istore (npc := 123) (L' := [some (.ref b), some (.int (nI f)), some (.int kd), some (.int 1), some (.int bo), some (.int 1), some (.int 0), some (.int bs), some (.int bc), some (.int (nI t)), some (.int 0), v11]) dX0_termYielded_121 rfl (by decide) rfl rfl ?_
      refine aw_aload_n (npc := 124) rfl dX0_termYielded_123 rfl ?_
      refine aw_get (npc := 127) dX0_termYielded_124 rfl kf_X0_15 F.1 rfl ?_
      refine aw_iload (npc := 129) rfl dX0_termYielded_127 rfl ?_
      refine aw_iload (npc := 131) rfl dX0_termYielded_129 rfl ?_
      refine aw_callSN (npc := 134) (N := mX7_carePlace) (mc := 0) (ms := 0) (A := [.int 0, .int (nI t)]) (S := [.ref (b + 2)]) (L0 := [some (.int 0), some (.int (nI t))]) dX0_termYielded_131 rfl km_X7_carePlace kk_X0_87 rfl ⟨rfl, by decide⟩ rfl (Nat.le_of_ble_eq_true rfl) (Nat.zero_add _) (Nat.zero_add _) rfl ?_
      refine aw_iload_n (npc := 1) rfl dX7_carePlace_0 rfl ?_
      refine aw_iconst (npc := 2) (v := 4) (by decide) dX7_carePlace_1 rfl ?_
      refine aw_imulV (npc := 3) (v := 0) dX7_carePlace_2 rfl (by decide) ?_
      refine aw_iload_n (npc := 4) rfl dX7_carePlace_3 rfl ?_
      refine aw_iaddV (npc := 5) (v := nI (0 + t)) dX7_carePlace_4 rfl (nI_add 0 _) ?_
      refine aw_iret rfl dX7_carePlace_5 ?_
      refine aw_re (S' := [.int (nI (0 + t)), .ref (b + 2)]) rfl ?_
      refine aw_iald (npc := 135) (x := N (12 + 1 * (0 + t))) (j := (0 + t)) dX0_termYielded_134 rfl F.2.2.1 (am_ix_nI (by omega)) (tl_at (by omega)) ?_
      refine aw_istore (npc := 137) (L' := [some (.ref b), some (.int (nI f)), some (.int kd), some (.int 1), some (.int bo), some (.int 1), some (.int 0), some (.int bs), some (.int bc), some (.int (nI t)), some (.int 0), some (.int (N (12 + 1 * (0 + t))))]) dX0_termYielded_135 rfl (by decide) rfl rfl ?_
      refine aw_iload (npc := 139) rfl dX0_termYielded_137 rfl ?_
      refine aw_if_eq (npc := 142) (tgt := 177) dX0_termYielded_139 rfl (by decide) (fun _ => ?_) (fun hc => absurd (by decide) hc)
      refine aw_iinc (npc := 180) (v := nI (t + 1)) (L' := [some (.ref b), some (.int (nI f)), some (.int kd), some (.int 1), some (.int bo), some (.int 1), some (.int 0), some (.int bs), some (.int bc), some (.int (nI (t + 1))), some (.int 0), some (.int (N (12 + 1 * (0 + t))))]) dX0_termYielded_177 rfl rfl (nI_1 _) (by decide) rfl rfl ?_
      refine aw_goto (npc := 76) dX0_termYielded_180 (by decide) ?_
      refine ih (t + 1) (by omega) bs bc _ _ ?_
      have e9 : tyStp 1 1 0 N t (bs, bc) = (bs, bc) := by simp [tyStp, hc2, -Nat.one_mul, -Nat.zero_add]
      exact (congrArg (tyM 1 1 0 N m (t + 1)) e9) ▸ hq
    · refine aw_iconst (npc := 117) (v := 1) (by decide) dX0_termYielded_116 rfl ?_
      refine aw_goto (npc := 121) dX0_termYielded_117 (by decide) ?_
      refine aw_istore (npc := 123) (L' := [some (.ref b), some (.int (nI f)), some (.int kd), some (.int 1), some (.int bo), some (.int 1), some (.int 0), some (.int bs), some (.int bc), some (.int (nI t)), some (.int 1), v11]) dX0_termYielded_121 rfl (by decide) rfl rfl ?_
      refine aw_aload_n (npc := 124) rfl dX0_termYielded_123 rfl ?_
      refine aw_get (npc := 127) dX0_termYielded_124 rfl kf_X0_15 F.1 rfl ?_
      refine aw_iload (npc := 129) rfl dX0_termYielded_127 rfl ?_
      refine aw_iload (npc := 131) rfl dX0_termYielded_129 rfl ?_
      refine aw_callSN (npc := 134) (N := mX7_carePlace) (mc := 0) (ms := 0) (A := [.int 0, .int (nI t)]) (S := [.ref (b + 2)]) (L0 := [some (.int 0), some (.int (nI t))]) dX0_termYielded_131 rfl km_X7_carePlace kk_X0_87 rfl ⟨rfl, by decide⟩ rfl (Nat.le_of_ble_eq_true rfl) (Nat.zero_add _) (Nat.zero_add _) rfl ?_
      refine aw_iload_n (npc := 1) rfl dX7_carePlace_0 rfl ?_
      refine aw_iconst (npc := 2) (v := 4) (by decide) dX7_carePlace_1 rfl ?_
      refine aw_imulV (npc := 3) (v := 0) dX7_carePlace_2 rfl (by decide) ?_
      refine aw_iload_n (npc := 4) rfl dX7_carePlace_3 rfl ?_
      refine aw_iaddV (npc := 5) (v := nI (0 + t)) dX7_carePlace_4 rfl (nI_add 0 _) ?_
      refine aw_iret rfl dX7_carePlace_5 ?_
      refine aw_re (S' := [.int (nI (0 + t)), .ref (b + 2)]) rfl ?_
      refine aw_iald (npc := 135) (x := N (12 + 1 * (0 + t))) (j := (0 + t)) dX0_termYielded_134 rfl F.2.2.1 (am_ix_nI (by omega)) (tl_at (by omega)) ?_
      refine aw_istore (npc := 137) (L' := [some (.ref b), some (.int (nI f)), some (.int kd), some (.int 1), some (.int bo), some (.int 1), some (.int 0), some (.int bs), some (.int bc), some (.int (nI t)), some (.int 1), some (.int (N (12 + 1 * (0 + t))))]) dX0_termYielded_135 rfl (by decide) rfl rfl ?_
      refine aw_iload (npc := 139) rfl dX0_termYielded_137 rfl ?_
      refine aw_if_eq (npc := 142) (tgt := 177) dX0_termYielded_139 rfl (by decide) (fun hc => absurd hc (by decide)) (fun _ => ?_)
      refine aw_iload (npc := 144) rfl dX0_termYielded_142 rfl ?_
      refine aw_if_lt (npc := 147) (tgt := 169) dX0_termYielded_144 rfl (by decide) (fun hc3 => ?_) (fun hc3 => ?_)
      · refine aw_iload (npc := 171) rfl dX0_termYielded_169 rfl ?_
        refine aw_istore (npc := 173) (L' := [some (.ref b), some (.int (nI f)), some (.int kd), some (.int 1), some (.int bo), some (.int 1), some (.int 0), some (.int (nI t)), some (.int bc), some (.int (nI t)), some (.int 1), some (.int (N (12 + 1 * (0 + t))))]) dX0_termYielded_171 rfl (by decide) rfl rfl ?_
        refine aw_iload (npc := 175) rfl dX0_termYielded_173 rfl ?_
        refine aw_istore (npc := 177) (L' := [some (.ref b), some (.int (nI f)), some (.int kd), some (.int 1), some (.int bo), some (.int 1), some (.int 0), some (.int (nI t)), some (.int (N (12 + 1 * (0 + t)))), some (.int (nI t)), some (.int 1), some (.int (N (12 + 1 * (0 + t))))]) dX0_termYielded_175 rfl (by decide) rfl rfl ?_
        refine aw_iinc (npc := 180) (v := nI (t + 1)) (L' := [some (.ref b), some (.int (nI f)), some (.int kd), some (.int 1), some (.int bo), some (.int 1), some (.int 0), some (.int (nI t)), some (.int (N (12 + 1 * (0 + t)))), some (.int (nI (t + 1))), some (.int 1), some (.int (N (12 + 1 * (0 + t))))]) dX0_termYielded_177 rfl rfl (nI_1 _) (by decide) rfl rfl ?_
        refine aw_goto (npc := 76) dX0_termYielded_180 (by decide) ?_
        refine ih (t + 1) (by omega) (nI t) (N (12 + 1 * (0 + t))) _ _ ?_
        have e9 : tyStp 1 1 0 N t (bs, bc) = (nI t, N (12 + 1 * (0 + t))) := by simp [tyStp, hc2, hc3, -Nat.one_mul, -Nat.zero_add]
        exact (congrArg (tyM 1 1 0 N m (t + 1)) e9) ▸ hq
      · refine aw_iload (npc := 149) rfl dX0_termYielded_147 rfl ?_
        refine aw_if_eq (npc := 152) (tgt := 162) dX0_termYielded_149 rfl (by decide) (fun hc => absurd hc (by decide)) (fun _ => ?_)
        refine aw_iload (npc := 154) rfl dX0_termYielded_152 rfl ?_
        refine aw_iload (npc := 156) rfl dX0_termYielded_154 rfl ?_
        refine aw_icmp_le (npc := 159) (tgt := 177) dX0_termYielded_156 rfl (by decide) (fun hc4 => ?_) (fun hc4 => ?_)
        · refine aw_iinc (npc := 180) (v := nI (t + 1)) (L' := [some (.ref b), some (.int (nI f)), some (.int kd), some (.int 1), some (.int bo), some (.int 1), some (.int 0), some (.int bs), some (.int bc), some (.int (nI (t + 1))), some (.int 1), some (.int (N (12 + 1 * (0 + t))))]) dX0_termYielded_177 rfl rfl (nI_1 _) (by decide) rfl rfl ?_
          refine aw_goto (npc := 76) dX0_termYielded_180 (by decide) ?_
          refine ih (t + 1) (by omega) bs bc _ _ ?_
          have e9 : tyStp 1 1 0 N t (bs, bc) = (bs, bc) := by simp [tyStp, hc2, hc3, hc4, -Nat.one_mul, -Nat.zero_add]
          exact (congrArg (tyM 1 1 0 N m (t + 1)) e9) ▸ hq
        · refine aw_goto (npc := 169) dX0_termYielded_159 (by decide) ?_
          refine aw_iload (npc := 171) rfl dX0_termYielded_169 rfl ?_
          refine aw_istore (npc := 173) (L' := [some (.ref b), some (.int (nI f)), some (.int kd), some (.int 1), some (.int bo), some (.int 1), some (.int 0), some (.int (nI t)), some (.int bc), some (.int (nI t)), some (.int 1), some (.int (N (12 + 1 * (0 + t))))]) dX0_termYielded_171 rfl (by decide) rfl rfl ?_
          refine aw_iload (npc := 175) rfl dX0_termYielded_173 rfl ?_
          refine aw_istore (npc := 177) (L' := [some (.ref b), some (.int (nI f)), some (.int kd), some (.int 1), some (.int bo), some (.int 1), some (.int 0), some (.int (nI t)), some (.int (N (12 + 1 * (0 + t)))), some (.int (nI t)), some (.int 1), some (.int (N (12 + 1 * (0 + t))))]) dX0_termYielded_175 rfl (by decide) rfl rfl ?_
          refine aw_iinc (npc := 180) (v := nI (t + 1)) (L' := [some (.ref b), some (.int (nI f)), some (.int kd), some (.int 1), some (.int bo), some (.int 1), some (.int 0), some (.int (nI t)), some (.int (N (12 + 1 * (0 + t)))), some (.int (nI (t + 1))), some (.int 1), some (.int (N (12 + 1 * (0 + t))))]) dX0_termYielded_177 rfl rfl (nI_1 _) (by decide) rfl rfl ?_
          refine aw_goto (npc := 76) dX0_termYielded_180 (by decide) ?_
          refine ih (t + 1) (by omega) (nI t) (N (12 + 1 * (0 + t))) _ _ ?_
          have e9 : tyStp 1 1 0 N t (bs, bc) = (nI t, N (12 + 1 * (0 + t))) := by simp [tyStp, hc2, hc3, hc4, -Nat.one_mul, -Nat.zero_add]
          exact (congrArg (tyM 1 1 0 N m (t + 1)) e9) ▸ hq
set_option maxHeartbeats 4000000 in
set_option maxRecDepth 100000 in
theorem g_tyL111 {X : List Int32} {d rc rs n : Nat} {Q : am_Q} {b : Nat} {N : Nat → Int32} {tx : List Value} {lk mv : Nat → Int32} {h : am_H} {f : Nat} {kd bo : Int32} (F : QR b N tx lk mv h) : ∀ (m t : Nat), t + m = 4 → ∀ (bs bc : Int32) (v10 v11 : Option Value), Q (some (.int (tyM 1 1 4 N m t (bs, bc)).1)) n h → AW X mX0_termYielded (d + 3) rc rs 76 [some (.ref b), some (.int (nI f)), some (.int kd), some (.int 1), some (.int bo), some (.int 1), some (.int 1), some (.int bs), some (.int bc), some (.int (nI t)), v10, v11] [] n h Q := by
  intro m
  induction m with
  | zero =>
    intro t ht bs bc v10 v11 hq
    obtain rfl : t = 4 := by omega
    refine aw_iload (npc := 78) rfl dX0_termYielded_76 rfl ?_
    refine aw_iconst (npc := 79) (v := 4) (by decide) dX0_termYielded_78 rfl ?_
    refine aw_icmp_ge (npc := 82) (tgt := 183) dX0_termYielded_79 rfl (by decide) (fun _ => ?_) (fun hc => absurd (nI_le (a := 4) (b := 4) (by omega) (by omega)) hc)
    refine aw_iload (npc := 185) rfl dX0_termYielded_183 rfl ?_
    refine aw_iret rfl dX0_termYielded_185 ?_
    exact hq
  | succ m ih =>
    intro t ht bs bc v10 v11 hq
    refine aw_iload (npc := 78) rfl dX0_termYielded_76 rfl ?_
    refine aw_iconst (npc := 79) (v := 4) (by decide) dX0_termYielded_78 rfl ?_
    refine aw_icmp_ge (npc := 82) (tgt := 183) dX0_termYielded_79 rfl (by decide) (fun hc => absurd hc (nI_ge (a := t) (b := 4) (by omega) (by omega))) (fun _ => ?_)
    refine aw_iload_n (npc := 83) rfl dX0_termYielded_82 rfl ?_
    refine aw_if_ne (npc := 86) (tgt := 104) dX0_termYielded_83 rfl (by decide) (fun _ => ?_) (fun hc => absurd hc (by decide))
    refine aw_aload_n (npc := 105) rfl dX0_termYielded_104 rfl ?_
    refine aw_get (npc := 108) dX0_termYielded_105 rfl kf_X0_9 F.1 rfl ?_
    refine aw_iload (npc := 110) rfl dX0_termYielded_108 rfl ?_
    refine aw_iald (npc := 111) (x := N (8 + 1 * t)) (j := t) dX0_termYielded_110 rfl F.2.1 (am_ix_nI (by omega)) (tl_at (by omega)) ?_
    refine aw_bipush (npc := 113) (v := 9) (by decide) dX0_termYielded_111 rfl ?_
    refine aw_icmp_ge (npc := 116) (tgt := 120) dX0_termYielded_113 rfl (by decide) (fun hc2 => ?_) (fun hc2 => ?_)
    · refine aw_iconst (npc := 121) (v := 0) (by decide) dX0_termYielded_120 rfl ?_
      refine aw_istore (npc := 123) (L' := [some (.ref b), some (.int (nI f)), some (.int kd), some (.int 1), some (.int bo), some (.int 1), some (.int 1), some (.int bs), some (.int bc), some (.int (nI t)), some (.int 0), v11]) dX0_termYielded_121 rfl (by decide) rfl rfl ?_
      refine aw_aload_n (npc := 124) rfl dX0_termYielded_123 rfl ?_
      refine aw_get (npc := 127) dX0_termYielded_124 rfl kf_X0_15 F.1 rfl ?_
      refine aw_iload (npc := 129) rfl dX0_termYielded_127 rfl ?_
      refine aw_iload (npc := 131) rfl dX0_termYielded_129 rfl ?_
      refine aw_callSN (npc := 134) (N := mX7_carePlace) (mc := 0) (ms := 0) (A := [.int 1, .int (nI t)]) (S := [.ref (b + 2)]) (L0 := [some (.int 1), some (.int (nI t))]) dX0_termYielded_131 rfl km_X7_carePlace kk_X0_87 rfl ⟨rfl, by decide⟩ rfl (Nat.le_of_ble_eq_true rfl) (Nat.zero_add _) (Nat.zero_add _) rfl ?_
      refine aw_iload_n (npc := 1) rfl dX7_carePlace_0 rfl ?_
      refine aw_iconst (npc := 2) (v := 4) (by decide) dX7_carePlace_1 rfl ?_
      refine aw_imulV (npc := 3) (v := 4) dX7_carePlace_2 rfl (by decide) ?_
      refine aw_iload_n (npc := 4) rfl dX7_carePlace_3 rfl ?_
      refine aw_iaddV (npc := 5) (v := nI (4 + t)) dX7_carePlace_4 rfl (nI_add 4 _) ?_
      refine aw_iret rfl dX7_carePlace_5 ?_
      refine aw_re (S' := [.int (nI (4 + t)), .ref (b + 2)]) rfl ?_
      refine aw_iald (npc := 135) (x := N (12 + 1 * (4 + t))) (j := (4 + t)) dX0_termYielded_134 rfl F.2.2.1 (am_ix_nI (by omega)) (tl_at (by omega)) ?_
      refine aw_istore (npc := 137) (L' := [some (.ref b), some (.int (nI f)), some (.int kd), some (.int 1), some (.int bo), some (.int 1), some (.int 1), some (.int bs), some (.int bc), some (.int (nI t)), some (.int 0), some (.int (N (12 + 1 * (4 + t))))]) dX0_termYielded_135 rfl (by decide) rfl rfl ?_
      refine aw_iload (npc := 139) rfl dX0_termYielded_137 rfl ?_
      refine aw_if_eq (npc := 142) (tgt := 177) dX0_termYielded_139 rfl (by decide) (fun _ => ?_) (fun hc => absurd (by decide) hc)
      refine aw_iinc (npc := 180) (v := nI (t + 1)) (L' := [some (.ref b), some (.int (nI f)), some (.int kd), some (.int 1), some (.int bo), some (.int 1), some (.int 1), some (.int bs), some (.int bc), some (.int (nI (t + 1))), some (.int 0), some (.int (N (12 + 1 * (4 + t))))]) dX0_termYielded_177 rfl rfl (nI_1 _) (by decide) rfl rfl ?_
      refine aw_goto (npc := 76) dX0_termYielded_180 (by decide) ?_
      refine ih (t + 1) (by omega) bs bc _ _ ?_
      have e9 : tyStp 1 1 4 N t (bs, bc) = (bs, bc) := by simp [tyStp, hc2, -Nat.one_mul, -Nat.zero_add]
      exact (congrArg (tyM 1 1 4 N m (t + 1)) e9) ▸ hq
    · refine aw_iconst (npc := 117) (v := 1) (by decide) dX0_termYielded_116 rfl ?_
      refine aw_goto (npc := 121) dX0_termYielded_117 (by decide) ?_
      refine aw_istore (npc := 123) (L' := [some (.ref b), some (.int (nI f)), some (.int kd), some (.int 1), some (.int bo), some (.int 1), some (.int 1), some (.int bs), some (.int bc), some (.int (nI t)), some (.int 1), v11]) dX0_termYielded_121 rfl (by decide) rfl rfl ?_
      refine aw_aload_n (npc := 124) rfl dX0_termYielded_123 rfl ?_
      refine aw_get (npc := 127) dX0_termYielded_124 rfl kf_X0_15 F.1 rfl ?_
      refine aw_iload (npc := 129) rfl dX0_termYielded_127 rfl ?_
      refine aw_iload (npc := 131) rfl dX0_termYielded_129 rfl ?_
      refine aw_callSN (npc := 134) (N := mX7_carePlace) (mc := 0) (ms := 0) (A := [.int 1, .int (nI t)]) (S := [.ref (b + 2)]) (L0 := [some (.int 1), some (.int (nI t))]) dX0_termYielded_131 rfl km_X7_carePlace kk_X0_87 rfl ⟨rfl, by decide⟩ rfl (Nat.le_of_ble_eq_true rfl) (Nat.zero_add _) (Nat.zero_add _) rfl ?_
      refine aw_iload_n (npc := 1) rfl dX7_carePlace_0 rfl ?_
      refine aw_iconst (npc := 2) (v := 4) (by decide) dX7_carePlace_1 rfl ?_
      refine aw_imulV (npc := 3) (v := 4) dX7_carePlace_2 rfl (by decide) ?_
      refine aw_iload_n (npc := 4) rfl dX7_carePlace_3 rfl ?_
      refine aw_iaddV (npc := 5) (v := nI (4 + t)) dX7_carePlace_4 rfl (nI_add 4 _) ?_
      refine aw_iret rfl dX7_carePlace_5 ?_
      refine aw_re (S' := [.int (nI (4 + t)), .ref (b + 2)]) rfl ?_
      refine aw_iald (npc := 135) (x := N (12 + 1 * (4 + t))) (j := (4 + t)) dX0_termYielded_134 rfl F.2.2.1 (am_ix_nI (by omega)) (tl_at (by omega)) ?_
      refine aw_istore (npc := 137) (L' := [some (.ref b), some (.int (nI f)), some (.int kd), some (.int 1), some (.int bo), some (.int 1), some (.int 1), some (.int bs), some (.int bc), some (.int (nI t)), some (.int 1), some (.int (N (12 + 1 * (4 + t))))]) dX0_termYielded_135 rfl (by decide) rfl rfl ?_
      refine aw_iload (npc := 139) rfl dX0_termYielded_137 rfl ?_
      refine aw_if_eq (npc := 142) (tgt := 177) dX0_termYielded_139 rfl (by decide) (fun hc => absurd hc (by decide)) (fun _ => ?_)
      refine aw_iload (npc := 144) rfl dX0_termYielded_142 rfl ?_
      refine aw_if_lt (npc := 147) (tgt := 169) dX0_termYielded_144 rfl (by decide) (fun hc3 => ?_) (fun hc3 => ?_)
      · refine aw_iload (npc := 171) rfl dX0_termYielded_169 rfl ?_
        refine aw_istore (npc := 173) (L' := [some (.ref b), some (.int (nI f)), some (.int kd), some (.int 1), some (.int bo), some (.int 1), some (.int 1), some (.int (nI t)), some (.int bc), some (.int (nI t)), some (.int 1), some (.int (N (12 + 1 * (4 + t))))]) dX0_termYielded_171 rfl (by decide) rfl rfl ?_
        refine aw_iload (npc := 175) rfl dX0_termYielded_173 rfl ?_
        refine aw_istore (npc := 177) (L' := [some (.ref b), some (.int (nI f)), some (.int kd), some (.int 1), some (.int bo), some (.int 1), some (.int 1), some (.int (nI t)), some (.int (N (12 + 1 * (4 + t)))), some (.int (nI t)), some (.int 1), some (.int (N (12 + 1 * (4 + t))))]) dX0_termYielded_175 rfl (by decide) rfl rfl ?_
        refine aw_iinc (npc := 180) (v := nI (t + 1)) (L' := [some (.ref b), some (.int (nI f)), some (.int kd), some (.int 1), some (.int bo), some (.int 1), some (.int 1), some (.int (nI t)), some (.int (N (12 + 1 * (4 + t)))), some (.int (nI (t + 1))), some (.int 1), some (.int (N (12 + 1 * (4 + t))))]) dX0_termYielded_177 rfl rfl (nI_1 _) (by decide) rfl rfl ?_
        refine aw_goto (npc := 76) dX0_termYielded_180 (by decide) ?_
        refine ih (t + 1) (by omega) (nI t) (N (12 + 1 * (4 + t))) _ _ ?_
        have e9 : tyStp 1 1 4 N t (bs, bc) = (nI t, N (12 + 1 * (4 + t))) := by simp [tyStp, hc2, hc3, -Nat.one_mul, -Nat.zero_add]
        exact (congrArg (tyM 1 1 4 N m (t + 1)) e9) ▸ hq
      · refine aw_iload (npc := 149) rfl dX0_termYielded_147 rfl ?_
        refine aw_if_eq (npc := 152) (tgt := 162) dX0_termYielded_149 rfl (by decide) (fun hc => absurd hc (by decide)) (fun _ => ?_)
        refine aw_iload (npc := 154) rfl dX0_termYielded_152 rfl ?_
        refine aw_iload (npc := 156) rfl dX0_termYielded_154 rfl ?_
        refine aw_icmp_le (npc := 159) (tgt := 177) dX0_termYielded_156 rfl (by decide) (fun hc4 => ?_) (fun hc4 => ?_)
        · refine aw_iinc (npc := 180) (v := nI (t + 1)) (L' := [some (.ref b), some (.int (nI f)), some (.int kd), some (.int 1), some (.int bo), some (.int 1), some (.int 1), some (.int bs), some (.int bc), some (.int (nI (t + 1))), some (.int 1), some (.int (N (12 + 1 * (4 + t))))]) dX0_termYielded_177 rfl rfl (nI_1 _) (by decide) rfl rfl ?_
          refine aw_goto (npc := 76) dX0_termYielded_180 (by decide) ?_
          refine ih (t + 1) (by omega) bs bc _ _ ?_
          have e9 : tyStp 1 1 4 N t (bs, bc) = (bs, bc) := by simp [tyStp, hc2, hc3, hc4, -Nat.one_mul, -Nat.zero_add]
          exact (congrArg (tyM 1 1 4 N m (t + 1)) e9) ▸ hq
        · refine aw_goto (npc := 169) dX0_termYielded_159 (by decide) ?_
          refine aw_iload (npc := 171) rfl dX0_termYielded_169 rfl ?_
          refine aw_istore (npc := 173) (L' := [some (.ref b), some (.int (nI f)), some (.int kd), some (.int 1), some (.int bo), some (.int 1), some (.int 1), some (.int (nI t)), some (.int bc), some (.int (nI t)), some (.int 1), some (.int (N (12 + 1 * (4 + t))))]) dX0_termYielded_171 rfl (by decide) rfl rfl ?_
          refine aw_iload (npc := 175) rfl dX0_termYielded_173 rfl ?_
          refine aw_istore (npc := 177) (L' := [some (.ref b), some (.int (nI f)), some (.int kd), some (.int 1), some (.int bo), some (.int 1), some (.int 1), some (.int (nI t)), some (.int (N (12 + 1 * (4 + t)))), some (.int (nI t)), some (.int 1), some (.int (N (12 + 1 * (4 + t))))]) dX0_termYielded_175 rfl (by decide) rfl rfl ?_
          refine aw_iinc (npc := 180) (v := nI (t + 1)) (L' := [some (.ref b), some (.int (nI f)), some (.int kd), some (.int 1), some (.int bo), some (.int 1), some (.int 1), some (.int (nI t)), some (.int (N (12 + 1 * (4 + t)))), some (.int (nI (t + 1))), some (.int 1), some (.int (N (12 + 1 * (4 + t))))]) dX0_termYielded_177 rfl rfl (nI_1 _) (by decide) rfl rfl ?_
          refine aw_goto (npc := 76) dX0_termYielded_180 (by decide) ?_
          refine ih (t + 1) (by omega) (nI t) (N (12 + 1 * (4 + t))) _ _ ?_
          have e9 : tyStp 1 1 4 N t (bs, bc) = (nI t, N (12 + 1 * (4 + t))) := by simp [tyStp, hc2, hc3, hc4, -Nat.one_mul, -Nat.zero_add]
          exact (congrArg (tyM 1 1 4 N m (t + 1)) e9) ▸ hq
set_option maxHeartbeats 4000000 in
set_option maxRecDepth 100000 in
theorem g_term {X : List Int32} {d rc rs n : Nat} {Q : am_Q} {b : Nat} {N : Nat → Int32} {tx : List Value} {lk mv : Nat → Int32} {h : am_H} {f : Nat} (F : QR b N tx lk mv h) (hf : f < 8) (hk : wi (N (22 + 5 * f)) 0 5) (hs : wi (N (23 + 5 * f)) 0 1) (hq : Q (some (.int (ty N f))) n h) : AW X mX0_termYielded (d + 3) rc rs 0 [some (.ref b), some (.int (nI f)), none, none, none, none, none, none, none, none, none, none] [] n h Q := by
  refine aw_aload_n (npc := 1) rfl dX0_termYielded_0 rfl ?_
  refine aw_get (npc := 4) dX0_termYielded_1 rfl kf_X0_43 F.1 rfl ?_
  refine aw_iload_n (npc := 5) rfl dX0_termYielded_4 rfl ?_
  refine aw_iald (npc := 6) (x := N (22 + 5 * f)) (j := f) dX0_termYielded_5 rfl F.2.2.2.2.1 (am_ix_nI (by omega)) (tl_at (by omega)) ?_
  rcases wi_c0_5 hk with ek | ek | ek | ek | ek | ek
  · refine aw_top (y := 0) ek ?_
    refine aw_istore_n (npc := 7) (L' := [some (.ref b), some (.int (nI f)), some (.int 0), none, none, none, none, none, none, none, none, none]) dX0_termYielded_6 rfl (by decide) rfl rfl ?_
    refine aw_aload_n (npc := 8) rfl dX0_termYielded_7 rfl ?_
    refine aw_get (npc := 11) dX0_termYielded_8 rfl kf_X0_46 F.1 rfl ?_
    refine aw_iload_n (npc := 12) rfl dX0_termYielded_11 rfl ?_
    refine aw_iald (npc := 13) (x := N (23 + 5 * f)) (j := f) dX0_termYielded_12 rfl F.2.2.2.2.2.1 (am_ix_nI (by omega)) (tl_at (by omega)) ?_
    rcases wi_c0_1 hs with es | es
    · refine aw_top (y := 0) es ?_
      refine aw_istore_n (npc := 14) (L' := [some (.ref b), some (.int (nI f)), some (.int 0), some (.int 0), none, none, none, none, none, none, none, none]) dX0_termYielded_13 rfl (by decide) rfl rfl ?_
      refine aw_iload_n (npc := 15) rfl dX0_termYielded_14 rfl ?_
      refine aw_iconst (npc := 16) (v := 1) (by decide) dX0_termYielded_15 rfl ?_
      refine aw_icmp_eq (npc := 19) (tgt := 29) dX0_termYielded_16 rfl (by decide) (fun hc => absurd hc (by decide)) (fun _ => ?_)
      refine aw_iload_n (npc := 20) rfl dX0_termYielded_19 rfl ?_
      refine aw_iconst (npc := 21) (v := 3) (by decide) dX0_termYielded_20 rfl ?_
      refine aw_icmp_eq (npc := 24) (tgt := 29) dX0_termYielded_21 rfl (by decide) (fun hc => absurd hc (by decide)) (fun _ => ?_)
      refine aw_iload_n (npc := 25) rfl dX0_termYielded_24 rfl ?_
      refine aw_iconst (npc := 26) (v := 4) (by decide) dX0_termYielded_25 rfl ?_
      refine aw_icmp_ne (npc := 29) (tgt := 33) dX0_termYielded_26 rfl (by decide) (fun _ => ?_) (fun hc => absurd hc (by decide))
      refine aw_iconst (npc := 34) (v := 0) (by decide) dX0_termYielded_33 rfl ?_
      refine aw_istore (npc := 36) (L' := [some (.ref b), some (.int (nI f)), some (.int 0), some (.int 0), some (.int 0), none, none, none, none, none, none, none]) dX0_termYielded_34 rfl (by decide) rfl rfl ?_
      refine aw_iload_n (npc := 37) rfl dX0_termYielded_36 rfl ?_
      refine aw_iconst (npc := 38) (v := 4) (by decide) dX0_termYielded_37 rfl ?_
      refine aw_icmp_eq (npc := 41) (tgt := 46) dX0_termYielded_38 rfl (by decide) (fun hc => absurd hc (by decide)) (fun _ => ?_)
      refine aw_iload_n (npc := 42) rfl dX0_termYielded_41 rfl ?_
      refine aw_iconst (npc := 43) (v := 5) (by decide) dX0_termYielded_42 rfl ?_
      refine aw_icmp_ne (npc := 46) (tgt := 50) dX0_termYielded_43 rfl (by decide) (fun _ => ?_) (fun hc => absurd hc (by decide))
      refine aw_iconst (npc := 51) (v := 0) (by decide) dX0_termYielded_50 rfl ?_
      refine aw_istore (npc := 53) (L' := [some (.ref b), some (.int (nI f)), some (.int 0), some (.int 0), some (.int 0), some (.int 0), none, none, none, none, none, none]) dX0_termYielded_51 rfl (by decide) rfl rfl ?_
      refine aw_iload (npc := 55) rfl dX0_termYielded_53 rfl ?_
      refine aw_if_eq (npc := 58) (tgt := 64) dX0_termYielded_55 rfl (by decide) (fun _ => ?_) (fun hc => absurd (by decide) hc)
      refine aw_iload_n (npc := 65) rfl dX0_termYielded_64 rfl ?_
      refine aw_istore (npc := 67) (L' := [some (.ref b), some (.int (nI f)), some (.int 0), some (.int 0), some (.int 0), some (.int 0), some (.int 0), none, none, none, none, none]) dX0_termYielded_65 rfl (by decide) rfl rfl ?_
      refine aw_iconst (npc := 68) (v := -1) (by decide) dX0_termYielded_67 rfl ?_
      refine aw_istore (npc := 70) (L' := [some (.ref b), some (.int (nI f)), some (.int 0), some (.int 0), some (.int 0), some (.int 0), some (.int 0), some (.int (-1)), none, none, none, none]) dX0_termYielded_68 rfl (by decide) rfl rfl ?_
      refine aw_iconst (npc := 71) (v := 0) (by decide) dX0_termYielded_70 rfl ?_
      refine aw_istore (npc := 73) (L' := [some (.ref b), some (.int (nI f)), some (.int 0), some (.int 0), some (.int 0), some (.int 0), some (.int 0), some (.int (-1)), some (.int 0), none, none, none]) dX0_termYielded_71 rfl (by decide) rfl rfl ?_
      refine aw_iconst (npc := 74) (v := 0) (by decide) dX0_termYielded_73 rfl ?_
      refine aw_istore (npc := 76) (L' := [some (.ref b), some (.int (nI f)), some (.int 0), some (.int 0), some (.int 0), some (.int 0), some (.int 0), some (.int (-1)), some (.int 0), some (.int 0), none, none]) dX0_termYielded_74 rfl (by decide) rfl rfl ?_
      refine aw_locs (L' := [some (.ref b), some (.int (nI f)), some (.int 0), some (.int 0), some (.int 0), some (.int 0), some (.int 0), some (.int (-1)), some (.int 0), some (.int (nI 0)), none, none]) rfl ?_
      refine g_tyL000 F 4 0 (by omega) (-1) 0 none none ?_
      exact (show ty N f = (tyM 0 0 0 N 4 0 (-1, 0)).1 by simp [ty, tyK, ek, es]) ▸ hq
    · refine aw_top (y := 1) es ?_
      refine aw_istore_n (npc := 14) (L' := [some (.ref b), some (.int (nI f)), some (.int 0), some (.int 1), none, none, none, none, none, none, none, none]) dX0_termYielded_13 rfl (by decide) rfl rfl ?_
      refine aw_iload_n (npc := 15) rfl dX0_termYielded_14 rfl ?_
      refine aw_iconst (npc := 16) (v := 1) (by decide) dX0_termYielded_15 rfl ?_
      refine aw_icmp_eq (npc := 19) (tgt := 29) dX0_termYielded_16 rfl (by decide) (fun hc => absurd hc (by decide)) (fun _ => ?_)
      refine aw_iload_n (npc := 20) rfl dX0_termYielded_19 rfl ?_
      refine aw_iconst (npc := 21) (v := 3) (by decide) dX0_termYielded_20 rfl ?_
      refine aw_icmp_eq (npc := 24) (tgt := 29) dX0_termYielded_21 rfl (by decide) (fun hc => absurd hc (by decide)) (fun _ => ?_)
      refine aw_iload_n (npc := 25) rfl dX0_termYielded_24 rfl ?_
      refine aw_iconst (npc := 26) (v := 4) (by decide) dX0_termYielded_25 rfl ?_
      refine aw_icmp_ne (npc := 29) (tgt := 33) dX0_termYielded_26 rfl (by decide) (fun _ => ?_) (fun hc => absurd hc (by decide))
      refine aw_iconst (npc := 34) (v := 0) (by decide) dX0_termYielded_33 rfl ?_
      refine aw_istore (npc := 36) (L' := [some (.ref b), some (.int (nI f)), some (.int 0), some (.int 1), some (.int 0), none, none, none, none, none, none, none]) dX0_termYielded_34 rfl (by decide) rfl rfl ?_
      refine aw_iload_n (npc := 37) rfl dX0_termYielded_36 rfl ?_
      refine aw_iconst (npc := 38) (v := 4) (by decide) dX0_termYielded_37 rfl ?_
      refine aw_icmp_eq (npc := 41) (tgt := 46) dX0_termYielded_38 rfl (by decide) (fun hc => absurd hc (by decide)) (fun _ => ?_)
      refine aw_iload_n (npc := 42) rfl dX0_termYielded_41 rfl ?_
      refine aw_iconst (npc := 43) (v := 5) (by decide) dX0_termYielded_42 rfl ?_
      refine aw_icmp_ne (npc := 46) (tgt := 50) dX0_termYielded_43 rfl (by decide) (fun _ => ?_) (fun hc => absurd hc (by decide))
      refine aw_iconst (npc := 51) (v := 0) (by decide) dX0_termYielded_50 rfl ?_
      refine aw_istore (npc := 53) (L' := [some (.ref b), some (.int (nI f)), some (.int 0), some (.int 1), some (.int 0), some (.int 0), none, none, none, none, none, none]) dX0_termYielded_51 rfl (by decide) rfl rfl ?_
      refine aw_iload (npc := 55) rfl dX0_termYielded_53 rfl ?_
      refine aw_if_eq (npc := 58) (tgt := 64) dX0_termYielded_55 rfl (by decide) (fun _ => ?_) (fun hc => absurd (by decide) hc)
      refine aw_iload_n (npc := 65) rfl dX0_termYielded_64 rfl ?_
      refine aw_istore (npc := 67) (L' := [some (.ref b), some (.int (nI f)), some (.int 0), some (.int 1), some (.int 0), some (.int 0), some (.int 1), none, none, none, none, none]) dX0_termYielded_65 rfl (by decide) rfl rfl ?_
      refine aw_iconst (npc := 68) (v := -1) (by decide) dX0_termYielded_67 rfl ?_
      refine aw_istore (npc := 70) (L' := [some (.ref b), some (.int (nI f)), some (.int 0), some (.int 1), some (.int 0), some (.int 0), some (.int 1), some (.int (-1)), none, none, none, none]) dX0_termYielded_68 rfl (by decide) rfl rfl ?_
      refine aw_iconst (npc := 71) (v := 0) (by decide) dX0_termYielded_70 rfl ?_
      refine aw_istore (npc := 73) (L' := [some (.ref b), some (.int (nI f)), some (.int 0), some (.int 1), some (.int 0), some (.int 0), some (.int 1), some (.int (-1)), some (.int 0), none, none, none]) dX0_termYielded_71 rfl (by decide) rfl rfl ?_
      refine aw_iconst (npc := 74) (v := 0) (by decide) dX0_termYielded_73 rfl ?_
      refine aw_istore (npc := 76) (L' := [some (.ref b), some (.int (nI f)), some (.int 0), some (.int 1), some (.int 0), some (.int 0), some (.int 1), some (.int (-1)), some (.int 0), some (.int 0), none, none]) dX0_termYielded_74 rfl (by decide) rfl rfl ?_
      refine aw_locs (L' := [some (.ref b), some (.int (nI f)), some (.int 0), some (.int 1), some (.int 0), some (.int 0), some (.int 1), some (.int (-1)), some (.int 0), some (.int (nI 0)), none, none]) rfl ?_
      refine g_tyL101 F 4 0 (by omega) (-1) 0 none none ?_
      exact (show ty N f = (tyM 1 0 4 N 4 0 (-1, 0)).1 by simp [ty, tyK, ek, es]) ▸ hq
  · refine aw_top (y := 1) ek ?_
    refine aw_istore_n (npc := 7) (L' := [some (.ref b), some (.int (nI f)), some (.int 1), none, none, none, none, none, none, none, none, none]) dX0_termYielded_6 rfl (by decide) rfl rfl ?_
    refine aw_aload_n (npc := 8) rfl dX0_termYielded_7 rfl ?_
    refine aw_get (npc := 11) dX0_termYielded_8 rfl kf_X0_46 F.1 rfl ?_
    refine aw_iload_n (npc := 12) rfl dX0_termYielded_11 rfl ?_
    refine aw_iald (npc := 13) (x := N (23 + 5 * f)) (j := f) dX0_termYielded_12 rfl F.2.2.2.2.2.1 (am_ix_nI (by omega)) (tl_at (by omega)) ?_
    rcases wi_c0_1 hs with es | es
    · refine aw_top (y := 0) es ?_
      refine aw_istore_n (npc := 14) (L' := [some (.ref b), some (.int (nI f)), some (.int 1), some (.int 0), none, none, none, none, none, none, none, none]) dX0_termYielded_13 rfl (by decide) rfl rfl ?_
      refine aw_iload_n (npc := 15) rfl dX0_termYielded_14 rfl ?_
      refine aw_iconst (npc := 16) (v := 1) (by decide) dX0_termYielded_15 rfl ?_
      refine aw_icmp_eq (npc := 19) (tgt := 29) dX0_termYielded_16 rfl (by decide) (fun _ => ?_) (fun hc => absurd (by decide) hc)
      refine aw_iconst (npc := 30) (v := 1) (by decide) dX0_termYielded_29 rfl ?_
      refine aw_goto (npc := 34) dX0_termYielded_30 (by decide) ?_
      refine aw_istore (npc := 36) (L' := [some (.ref b), some (.int (nI f)), some (.int 1), some (.int 0), some (.int 1), none, none, none, none, none, none, none]) dX0_termYielded_34 rfl (by decide) rfl rfl ?_
      refine aw_iload_n (npc := 37) rfl dX0_termYielded_36 rfl ?_
      refine aw_iconst (npc := 38) (v := 4) (by decide) dX0_termYielded_37 rfl ?_
      refine aw_icmp_eq (npc := 41) (tgt := 46) dX0_termYielded_38 rfl (by decide) (fun hc => absurd hc (by decide)) (fun _ => ?_)
      refine aw_iload_n (npc := 42) rfl dX0_termYielded_41 rfl ?_
      refine aw_iconst (npc := 43) (v := 5) (by decide) dX0_termYielded_42 rfl ?_
      refine aw_icmp_ne (npc := 46) (tgt := 50) dX0_termYielded_43 rfl (by decide) (fun _ => ?_) (fun hc => absurd hc (by decide))
      refine aw_iconst (npc := 51) (v := 0) (by decide) dX0_termYielded_50 rfl ?_
      refine aw_istore (npc := 53) (L' := [some (.ref b), some (.int (nI f)), some (.int 1), some (.int 0), some (.int 1), some (.int 0), none, none, none, none, none, none]) dX0_termYielded_51 rfl (by decide) rfl rfl ?_
      refine aw_iload (npc := 55) rfl dX0_termYielded_53 rfl ?_
      refine aw_if_eq (npc := 58) (tgt := 64) dX0_termYielded_55 rfl (by decide) (fun hc => absurd hc (by decide)) (fun _ => ?_)
      refine aw_iconst (npc := 59) (v := 1) (by decide) dX0_termYielded_58 rfl ?_
      refine aw_iload_n (npc := 60) rfl dX0_termYielded_59 rfl ?_
      refine aw_isubV (npc := 61) (v := 1) dX0_termYielded_60 rfl (by decide) ?_
      refine aw_goto (npc := 65) dX0_termYielded_61 (by decide) ?_
      refine aw_istore (npc := 67) (L' := [some (.ref b), some (.int (nI f)), some (.int 1), some (.int 0), some (.int 1), some (.int 0), some (.int 1), none, none, none, none, none]) dX0_termYielded_65 rfl (by decide) rfl rfl ?_
      refine aw_iconst (npc := 68) (v := -1) (by decide) dX0_termYielded_67 rfl ?_
      refine aw_istore (npc := 70) (L' := [some (.ref b), some (.int (nI f)), some (.int 1), some (.int 0), some (.int 1), some (.int 0), some (.int 1), some (.int (-1)), none, none, none, none]) dX0_termYielded_68 rfl (by decide) rfl rfl ?_
      refine aw_iconst (npc := 71) (v := 0) (by decide) dX0_termYielded_70 rfl ?_
      refine aw_istore (npc := 73) (L' := [some (.ref b), some (.int (nI f)), some (.int 1), some (.int 0), some (.int 1), some (.int 0), some (.int 1), some (.int (-1)), some (.int 0), none, none, none]) dX0_termYielded_71 rfl (by decide) rfl rfl ?_
      refine aw_iconst (npc := 74) (v := 0) (by decide) dX0_termYielded_73 rfl ?_
      refine aw_istore (npc := 76) (L' := [some (.ref b), some (.int (nI f)), some (.int 1), some (.int 0), some (.int 1), some (.int 0), some (.int 1), some (.int (-1)), some (.int 0), some (.int 0), none, none]) dX0_termYielded_74 rfl (by decide) rfl rfl ?_
      refine aw_locs (L' := [some (.ref b), some (.int (nI f)), some (.int 1), some (.int 0), some (.int 1), some (.int 0), some (.int 1), some (.int (-1)), some (.int 0), some (.int (nI 0)), none, none]) rfl ?_
      refine g_tyL001 F 4 0 (by omega) (-1) 0 none none ?_
      exact (show ty N f = (tyM 0 0 4 N 4 0 (-1, 0)).1 by simp [ty, tyK, ek, es]) ▸ hq
    · refine aw_top (y := 1) es ?_
      refine aw_istore_n (npc := 14) (L' := [some (.ref b), some (.int (nI f)), some (.int 1), some (.int 1), none, none, none, none, none, none, none, none]) dX0_termYielded_13 rfl (by decide) rfl rfl ?_
      refine aw_iload_n (npc := 15) rfl dX0_termYielded_14 rfl ?_
      refine aw_iconst (npc := 16) (v := 1) (by decide) dX0_termYielded_15 rfl ?_
      refine aw_icmp_eq (npc := 19) (tgt := 29) dX0_termYielded_16 rfl (by decide) (fun _ => ?_) (fun hc => absurd (by decide) hc)
      refine aw_iconst (npc := 30) (v := 1) (by decide) dX0_termYielded_29 rfl ?_
      refine aw_goto (npc := 34) dX0_termYielded_30 (by decide) ?_
      refine aw_istore (npc := 36) (L' := [some (.ref b), some (.int (nI f)), some (.int 1), some (.int 1), some (.int 1), none, none, none, none, none, none, none]) dX0_termYielded_34 rfl (by decide) rfl rfl ?_
      refine aw_iload_n (npc := 37) rfl dX0_termYielded_36 rfl ?_
      refine aw_iconst (npc := 38) (v := 4) (by decide) dX0_termYielded_37 rfl ?_
      refine aw_icmp_eq (npc := 41) (tgt := 46) dX0_termYielded_38 rfl (by decide) (fun hc => absurd hc (by decide)) (fun _ => ?_)
      refine aw_iload_n (npc := 42) rfl dX0_termYielded_41 rfl ?_
      refine aw_iconst (npc := 43) (v := 5) (by decide) dX0_termYielded_42 rfl ?_
      refine aw_icmp_ne (npc := 46) (tgt := 50) dX0_termYielded_43 rfl (by decide) (fun _ => ?_) (fun hc => absurd hc (by decide))
      refine aw_iconst (npc := 51) (v := 0) (by decide) dX0_termYielded_50 rfl ?_
      refine aw_istore (npc := 53) (L' := [some (.ref b), some (.int (nI f)), some (.int 1), some (.int 1), some (.int 1), some (.int 0), none, none, none, none, none, none]) dX0_termYielded_51 rfl (by decide) rfl rfl ?_
      refine aw_iload (npc := 55) rfl dX0_termYielded_53 rfl ?_
      refine aw_if_eq (npc := 58) (tgt := 64) dX0_termYielded_55 rfl (by decide) (fun hc => absurd hc (by decide)) (fun _ => ?_)
      refine aw_iconst (npc := 59) (v := 1) (by decide) dX0_termYielded_58 rfl ?_
      refine aw_iload_n (npc := 60) rfl dX0_termYielded_59 rfl ?_
      refine aw_isubV (npc := 61) (v := 0) dX0_termYielded_60 rfl (by decide) ?_
      refine aw_goto (npc := 65) dX0_termYielded_61 (by decide) ?_
      refine aw_istore (npc := 67) (L' := [some (.ref b), some (.int (nI f)), some (.int 1), some (.int 1), some (.int 1), some (.int 0), some (.int 0), none, none, none, none, none]) dX0_termYielded_65 rfl (by decide) rfl rfl ?_
      refine aw_iconst (npc := 68) (v := -1) (by decide) dX0_termYielded_67 rfl ?_
      refine aw_istore (npc := 70) (L' := [some (.ref b), some (.int (nI f)), some (.int 1), some (.int 1), some (.int 1), some (.int 0), some (.int 0), some (.int (-1)), none, none, none, none]) dX0_termYielded_68 rfl (by decide) rfl rfl ?_
      refine aw_iconst (npc := 71) (v := 0) (by decide) dX0_termYielded_70 rfl ?_
      refine aw_istore (npc := 73) (L' := [some (.ref b), some (.int (nI f)), some (.int 1), some (.int 1), some (.int 1), some (.int 0), some (.int 0), some (.int (-1)), some (.int 0), none, none, none]) dX0_termYielded_71 rfl (by decide) rfl rfl ?_
      refine aw_iconst (npc := 74) (v := 0) (by decide) dX0_termYielded_73 rfl ?_
      refine aw_istore (npc := 76) (L' := [some (.ref b), some (.int (nI f)), some (.int 1), some (.int 1), some (.int 1), some (.int 0), some (.int 0), some (.int (-1)), some (.int 0), some (.int 0), none, none]) dX0_termYielded_74 rfl (by decide) rfl rfl ?_
      refine aw_locs (L' := [some (.ref b), some (.int (nI f)), some (.int 1), some (.int 1), some (.int 1), some (.int 0), some (.int 0), some (.int (-1)), some (.int 0), some (.int (nI 0)), none, none]) rfl ?_
      refine g_tyL100 F 4 0 (by omega) (-1) 0 none none ?_
      exact (show ty N f = (tyM 1 0 0 N 4 0 (-1, 0)).1 by simp [ty, tyK, ek, es]) ▸ hq
  · refine aw_top (y := 2) ek ?_
    refine aw_istore_n (npc := 7) (L' := [some (.ref b), some (.int (nI f)), some (.int 2), none, none, none, none, none, none, none, none, none]) dX0_termYielded_6 rfl (by decide) rfl rfl ?_
    refine aw_aload_n (npc := 8) rfl dX0_termYielded_7 rfl ?_
    refine aw_get (npc := 11) dX0_termYielded_8 rfl kf_X0_46 F.1 rfl ?_
    refine aw_iload_n (npc := 12) rfl dX0_termYielded_11 rfl ?_
    refine aw_iald (npc := 13) (x := N (23 + 5 * f)) (j := f) dX0_termYielded_12 rfl F.2.2.2.2.2.1 (am_ix_nI (by omega)) (tl_at (by omega)) ?_
    rcases wi_c0_1 hs with es | es
    · refine aw_top (y := 0) es ?_
      refine aw_istore_n (npc := 14) (L' := [some (.ref b), some (.int (nI f)), some (.int 2), some (.int 0), none, none, none, none, none, none, none, none]) dX0_termYielded_13 rfl (by decide) rfl rfl ?_
      refine aw_iload_n (npc := 15) rfl dX0_termYielded_14 rfl ?_
      refine aw_iconst (npc := 16) (v := 1) (by decide) dX0_termYielded_15 rfl ?_
      refine aw_icmp_eq (npc := 19) (tgt := 29) dX0_termYielded_16 rfl (by decide) (fun hc => absurd hc (by decide)) (fun _ => ?_)
      refine aw_iload_n (npc := 20) rfl dX0_termYielded_19 rfl ?_
      refine aw_iconst (npc := 21) (v := 3) (by decide) dX0_termYielded_20 rfl ?_
      refine aw_icmp_eq (npc := 24) (tgt := 29) dX0_termYielded_21 rfl (by decide) (fun hc => absurd hc (by decide)) (fun _ => ?_)
      refine aw_iload_n (npc := 25) rfl dX0_termYielded_24 rfl ?_
      refine aw_iconst (npc := 26) (v := 4) (by decide) dX0_termYielded_25 rfl ?_
      refine aw_icmp_ne (npc := 29) (tgt := 33) dX0_termYielded_26 rfl (by decide) (fun _ => ?_) (fun hc => absurd hc (by decide))
      refine aw_iconst (npc := 34) (v := 0) (by decide) dX0_termYielded_33 rfl ?_
      refine aw_istore (npc := 36) (L' := [some (.ref b), some (.int (nI f)), some (.int 2), some (.int 0), some (.int 0), none, none, none, none, none, none, none]) dX0_termYielded_34 rfl (by decide) rfl rfl ?_
      refine aw_iload_n (npc := 37) rfl dX0_termYielded_36 rfl ?_
      refine aw_iconst (npc := 38) (v := 4) (by decide) dX0_termYielded_37 rfl ?_
      refine aw_icmp_eq (npc := 41) (tgt := 46) dX0_termYielded_38 rfl (by decide) (fun hc => absurd hc (by decide)) (fun _ => ?_)
      refine aw_iload_n (npc := 42) rfl dX0_termYielded_41 rfl ?_
      refine aw_iconst (npc := 43) (v := 5) (by decide) dX0_termYielded_42 rfl ?_
      refine aw_icmp_ne (npc := 46) (tgt := 50) dX0_termYielded_43 rfl (by decide) (fun _ => ?_) (fun hc => absurd hc (by decide))
      refine aw_iconst (npc := 51) (v := 0) (by decide) dX0_termYielded_50 rfl ?_
      refine aw_istore (npc := 53) (L' := [some (.ref b), some (.int (nI f)), some (.int 2), some (.int 0), some (.int 0), some (.int 0), none, none, none, none, none, none]) dX0_termYielded_51 rfl (by decide) rfl rfl ?_
      refine aw_iload (npc := 55) rfl dX0_termYielded_53 rfl ?_
      refine aw_if_eq (npc := 58) (tgt := 64) dX0_termYielded_55 rfl (by decide) (fun _ => ?_) (fun hc => absurd (by decide) hc)
      refine aw_iload_n (npc := 65) rfl dX0_termYielded_64 rfl ?_
      refine aw_istore (npc := 67) (L' := [some (.ref b), some (.int (nI f)), some (.int 2), some (.int 0), some (.int 0), some (.int 0), some (.int 0), none, none, none, none, none]) dX0_termYielded_65 rfl (by decide) rfl rfl ?_
      refine aw_iconst (npc := 68) (v := -1) (by decide) dX0_termYielded_67 rfl ?_
      refine aw_istore (npc := 70) (L' := [some (.ref b), some (.int (nI f)), some (.int 2), some (.int 0), some (.int 0), some (.int 0), some (.int 0), some (.int (-1)), none, none, none, none]) dX0_termYielded_68 rfl (by decide) rfl rfl ?_
      refine aw_iconst (npc := 71) (v := 0) (by decide) dX0_termYielded_70 rfl ?_
      refine aw_istore (npc := 73) (L' := [some (.ref b), some (.int (nI f)), some (.int 2), some (.int 0), some (.int 0), some (.int 0), some (.int 0), some (.int (-1)), some (.int 0), none, none, none]) dX0_termYielded_71 rfl (by decide) rfl rfl ?_
      refine aw_iconst (npc := 74) (v := 0) (by decide) dX0_termYielded_73 rfl ?_
      refine aw_istore (npc := 76) (L' := [some (.ref b), some (.int (nI f)), some (.int 2), some (.int 0), some (.int 0), some (.int 0), some (.int 0), some (.int (-1)), some (.int 0), some (.int 0), none, none]) dX0_termYielded_74 rfl (by decide) rfl rfl ?_
      refine aw_locs (L' := [some (.ref b), some (.int (nI f)), some (.int 2), some (.int 0), some (.int 0), some (.int 0), some (.int 0), some (.int (-1)), some (.int 0), some (.int (nI 0)), none, none]) rfl ?_
      refine g_tyL000 F 4 0 (by omega) (-1) 0 none none ?_
      exact (show ty N f = (tyM 0 0 0 N 4 0 (-1, 0)).1 by simp [ty, tyK, ek, es]) ▸ hq
    · refine aw_top (y := 1) es ?_
      refine aw_istore_n (npc := 14) (L' := [some (.ref b), some (.int (nI f)), some (.int 2), some (.int 1), none, none, none, none, none, none, none, none]) dX0_termYielded_13 rfl (by decide) rfl rfl ?_
      refine aw_iload_n (npc := 15) rfl dX0_termYielded_14 rfl ?_
      refine aw_iconst (npc := 16) (v := 1) (by decide) dX0_termYielded_15 rfl ?_
      refine aw_icmp_eq (npc := 19) (tgt := 29) dX0_termYielded_16 rfl (by decide) (fun hc => absurd hc (by decide)) (fun _ => ?_)
      refine aw_iload_n (npc := 20) rfl dX0_termYielded_19 rfl ?_
      refine aw_iconst (npc := 21) (v := 3) (by decide) dX0_termYielded_20 rfl ?_
      refine aw_icmp_eq (npc := 24) (tgt := 29) dX0_termYielded_21 rfl (by decide) (fun hc => absurd hc (by decide)) (fun _ => ?_)
      refine aw_iload_n (npc := 25) rfl dX0_termYielded_24 rfl ?_
      refine aw_iconst (npc := 26) (v := 4) (by decide) dX0_termYielded_25 rfl ?_
      refine aw_icmp_ne (npc := 29) (tgt := 33) dX0_termYielded_26 rfl (by decide) (fun _ => ?_) (fun hc => absurd hc (by decide))
      refine aw_iconst (npc := 34) (v := 0) (by decide) dX0_termYielded_33 rfl ?_
      refine aw_istore (npc := 36) (L' := [some (.ref b), some (.int (nI f)), some (.int 2), some (.int 1), some (.int 0), none, none, none, none, none, none, none]) dX0_termYielded_34 rfl (by decide) rfl rfl ?_
      refine aw_iload_n (npc := 37) rfl dX0_termYielded_36 rfl ?_
      refine aw_iconst (npc := 38) (v := 4) (by decide) dX0_termYielded_37 rfl ?_
      refine aw_icmp_eq (npc := 41) (tgt := 46) dX0_termYielded_38 rfl (by decide) (fun hc => absurd hc (by decide)) (fun _ => ?_)
      refine aw_iload_n (npc := 42) rfl dX0_termYielded_41 rfl ?_
      refine aw_iconst (npc := 43) (v := 5) (by decide) dX0_termYielded_42 rfl ?_
      refine aw_icmp_ne (npc := 46) (tgt := 50) dX0_termYielded_43 rfl (by decide) (fun _ => ?_) (fun hc => absurd hc (by decide))
      refine aw_iconst (npc := 51) (v := 0) (by decide) dX0_termYielded_50 rfl ?_
      refine aw_istore (npc := 53) (L' := [some (.ref b), some (.int (nI f)), some (.int 2), some (.int 1), some (.int 0), some (.int 0), none, none, none, none, none, none]) dX0_termYielded_51 rfl (by decide) rfl rfl ?_
      refine aw_iload (npc := 55) rfl dX0_termYielded_53 rfl ?_
      refine aw_if_eq (npc := 58) (tgt := 64) dX0_termYielded_55 rfl (by decide) (fun _ => ?_) (fun hc => absurd (by decide) hc)
      refine aw_iload_n (npc := 65) rfl dX0_termYielded_64 rfl ?_
      refine aw_istore (npc := 67) (L' := [some (.ref b), some (.int (nI f)), some (.int 2), some (.int 1), some (.int 0), some (.int 0), some (.int 1), none, none, none, none, none]) dX0_termYielded_65 rfl (by decide) rfl rfl ?_
      refine aw_iconst (npc := 68) (v := -1) (by decide) dX0_termYielded_67 rfl ?_
      refine aw_istore (npc := 70) (L' := [some (.ref b), some (.int (nI f)), some (.int 2), some (.int 1), some (.int 0), some (.int 0), some (.int 1), some (.int (-1)), none, none, none, none]) dX0_termYielded_68 rfl (by decide) rfl rfl ?_
      refine aw_iconst (npc := 71) (v := 0) (by decide) dX0_termYielded_70 rfl ?_
      refine aw_istore (npc := 73) (L' := [some (.ref b), some (.int (nI f)), some (.int 2), some (.int 1), some (.int 0), some (.int 0), some (.int 1), some (.int (-1)), some (.int 0), none, none, none]) dX0_termYielded_71 rfl (by decide) rfl rfl ?_
      refine aw_iconst (npc := 74) (v := 0) (by decide) dX0_termYielded_73 rfl ?_
      refine aw_istore (npc := 76) (L' := [some (.ref b), some (.int (nI f)), some (.int 2), some (.int 1), some (.int 0), some (.int 0), some (.int 1), some (.int (-1)), some (.int 0), some (.int 0), none, none]) dX0_termYielded_74 rfl (by decide) rfl rfl ?_
      refine aw_locs (L' := [some (.ref b), some (.int (nI f)), some (.int 2), some (.int 1), some (.int 0), some (.int 0), some (.int 1), some (.int (-1)), some (.int 0), some (.int (nI 0)), none, none]) rfl ?_
      refine g_tyL101 F 4 0 (by omega) (-1) 0 none none ?_
      exact (show ty N f = (tyM 1 0 4 N 4 0 (-1, 0)).1 by simp [ty, tyK, ek, es]) ▸ hq
  · refine aw_top (y := 3) ek ?_
    refine aw_istore_n (npc := 7) (L' := [some (.ref b), some (.int (nI f)), some (.int 3), none, none, none, none, none, none, none, none, none]) dX0_termYielded_6 rfl (by decide) rfl rfl ?_
    refine aw_aload_n (npc := 8) rfl dX0_termYielded_7 rfl ?_
    refine aw_get (npc := 11) dX0_termYielded_8 rfl kf_X0_46 F.1 rfl ?_
    refine aw_iload_n (npc := 12) rfl dX0_termYielded_11 rfl ?_
    refine aw_iald (npc := 13) (x := N (23 + 5 * f)) (j := f) dX0_termYielded_12 rfl F.2.2.2.2.2.1 (am_ix_nI (by omega)) (tl_at (by omega)) ?_
    rcases wi_c0_1 hs with es | es
    · refine aw_top (y := 0) es ?_
      refine aw_istore_n (npc := 14) (L' := [some (.ref b), some (.int (nI f)), some (.int 3), some (.int 0), none, none, none, none, none, none, none, none]) dX0_termYielded_13 rfl (by decide) rfl rfl ?_
      refine aw_iload_n (npc := 15) rfl dX0_termYielded_14 rfl ?_
      refine aw_iconst (npc := 16) (v := 1) (by decide) dX0_termYielded_15 rfl ?_
      refine aw_icmp_eq (npc := 19) (tgt := 29) dX0_termYielded_16 rfl (by decide) (fun hc => absurd hc (by decide)) (fun _ => ?_)
      refine aw_iload_n (npc := 20) rfl dX0_termYielded_19 rfl ?_
      refine aw_iconst (npc := 21) (v := 3) (by decide) dX0_termYielded_20 rfl ?_
      refine aw_icmp_eq (npc := 24) (tgt := 29) dX0_termYielded_21 rfl (by decide) (fun _ => ?_) (fun hc => absurd (by decide) hc)
      refine aw_iconst (npc := 30) (v := 1) (by decide) dX0_termYielded_29 rfl ?_
      refine aw_goto (npc := 34) dX0_termYielded_30 (by decide) ?_
      refine aw_istore (npc := 36) (L' := [some (.ref b), some (.int (nI f)), some (.int 3), some (.int 0), some (.int 1), none, none, none, none, none, none, none]) dX0_termYielded_34 rfl (by decide) rfl rfl ?_
      refine aw_iload_n (npc := 37) rfl dX0_termYielded_36 rfl ?_
      refine aw_iconst (npc := 38) (v := 4) (by decide) dX0_termYielded_37 rfl ?_
      refine aw_icmp_eq (npc := 41) (tgt := 46) dX0_termYielded_38 rfl (by decide) (fun hc => absurd hc (by decide)) (fun _ => ?_)
      refine aw_iload_n (npc := 42) rfl dX0_termYielded_41 rfl ?_
      refine aw_iconst (npc := 43) (v := 5) (by decide) dX0_termYielded_42 rfl ?_
      refine aw_icmp_ne (npc := 46) (tgt := 50) dX0_termYielded_43 rfl (by decide) (fun _ => ?_) (fun hc => absurd hc (by decide))
      refine aw_iconst (npc := 51) (v := 0) (by decide) dX0_termYielded_50 rfl ?_
      refine aw_istore (npc := 53) (L' := [some (.ref b), some (.int (nI f)), some (.int 3), some (.int 0), some (.int 1), some (.int 0), none, none, none, none, none, none]) dX0_termYielded_51 rfl (by decide) rfl rfl ?_
      refine aw_iload (npc := 55) rfl dX0_termYielded_53 rfl ?_
      refine aw_if_eq (npc := 58) (tgt := 64) dX0_termYielded_55 rfl (by decide) (fun hc => absurd hc (by decide)) (fun _ => ?_)
      refine aw_iconst (npc := 59) (v := 1) (by decide) dX0_termYielded_58 rfl ?_
      refine aw_iload_n (npc := 60) rfl dX0_termYielded_59 rfl ?_
      refine aw_isubV (npc := 61) (v := 1) dX0_termYielded_60 rfl (by decide) ?_
      refine aw_goto (npc := 65) dX0_termYielded_61 (by decide) ?_
      refine aw_istore (npc := 67) (L' := [some (.ref b), some (.int (nI f)), some (.int 3), some (.int 0), some (.int 1), some (.int 0), some (.int 1), none, none, none, none, none]) dX0_termYielded_65 rfl (by decide) rfl rfl ?_
      refine aw_iconst (npc := 68) (v := -1) (by decide) dX0_termYielded_67 rfl ?_
      refine aw_istore (npc := 70) (L' := [some (.ref b), some (.int (nI f)), some (.int 3), some (.int 0), some (.int 1), some (.int 0), some (.int 1), some (.int (-1)), none, none, none, none]) dX0_termYielded_68 rfl (by decide) rfl rfl ?_
      refine aw_iconst (npc := 71) (v := 0) (by decide) dX0_termYielded_70 rfl ?_
      refine aw_istore (npc := 73) (L' := [some (.ref b), some (.int (nI f)), some (.int 3), some (.int 0), some (.int 1), some (.int 0), some (.int 1), some (.int (-1)), some (.int 0), none, none, none]) dX0_termYielded_71 rfl (by decide) rfl rfl ?_
      refine aw_iconst (npc := 74) (v := 0) (by decide) dX0_termYielded_73 rfl ?_
      refine aw_istore (npc := 76) (L' := [some (.ref b), some (.int (nI f)), some (.int 3), some (.int 0), some (.int 1), some (.int 0), some (.int 1), some (.int (-1)), some (.int 0), some (.int 0), none, none]) dX0_termYielded_74 rfl (by decide) rfl rfl ?_
      refine aw_locs (L' := [some (.ref b), some (.int (nI f)), some (.int 3), some (.int 0), some (.int 1), some (.int 0), some (.int 1), some (.int (-1)), some (.int 0), some (.int (nI 0)), none, none]) rfl ?_
      refine g_tyL001 F 4 0 (by omega) (-1) 0 none none ?_
      exact (show ty N f = (tyM 0 0 4 N 4 0 (-1, 0)).1 by simp [ty, tyK, ek, es]) ▸ hq
    · refine aw_top (y := 1) es ?_
      refine aw_istore_n (npc := 14) (L' := [some (.ref b), some (.int (nI f)), some (.int 3), some (.int 1), none, none, none, none, none, none, none, none]) dX0_termYielded_13 rfl (by decide) rfl rfl ?_
      refine aw_iload_n (npc := 15) rfl dX0_termYielded_14 rfl ?_
      refine aw_iconst (npc := 16) (v := 1) (by decide) dX0_termYielded_15 rfl ?_
      refine aw_icmp_eq (npc := 19) (tgt := 29) dX0_termYielded_16 rfl (by decide) (fun hc => absurd hc (by decide)) (fun _ => ?_)
      refine aw_iload_n (npc := 20) rfl dX0_termYielded_19 rfl ?_
      refine aw_iconst (npc := 21) (v := 3) (by decide) dX0_termYielded_20 rfl ?_
      refine aw_icmp_eq (npc := 24) (tgt := 29) dX0_termYielded_21 rfl (by decide) (fun _ => ?_) (fun hc => absurd (by decide) hc)
      refine aw_iconst (npc := 30) (v := 1) (by decide) dX0_termYielded_29 rfl ?_
      refine aw_goto (npc := 34) dX0_termYielded_30 (by decide) ?_
      refine aw_istore (npc := 36) (L' := [some (.ref b), some (.int (nI f)), some (.int 3), some (.int 1), some (.int 1), none, none, none, none, none, none, none]) dX0_termYielded_34 rfl (by decide) rfl rfl ?_
      refine aw_iload_n (npc := 37) rfl dX0_termYielded_36 rfl ?_
      refine aw_iconst (npc := 38) (v := 4) (by decide) dX0_termYielded_37 rfl ?_
      refine aw_icmp_eq (npc := 41) (tgt := 46) dX0_termYielded_38 rfl (by decide) (fun hc => absurd hc (by decide)) (fun _ => ?_)
      refine aw_iload_n (npc := 42) rfl dX0_termYielded_41 rfl ?_
      refine aw_iconst (npc := 43) (v := 5) (by decide) dX0_termYielded_42 rfl ?_
      refine aw_icmp_ne (npc := 46) (tgt := 50) dX0_termYielded_43 rfl (by decide) (fun _ => ?_) (fun hc => absurd hc (by decide))
      refine aw_iconst (npc := 51) (v := 0) (by decide) dX0_termYielded_50 rfl ?_
      refine aw_istore (npc := 53) (L' := [some (.ref b), some (.int (nI f)), some (.int 3), some (.int 1), some (.int 1), some (.int 0), none, none, none, none, none, none]) dX0_termYielded_51 rfl (by decide) rfl rfl ?_
      refine aw_iload (npc := 55) rfl dX0_termYielded_53 rfl ?_
      refine aw_if_eq (npc := 58) (tgt := 64) dX0_termYielded_55 rfl (by decide) (fun hc => absurd hc (by decide)) (fun _ => ?_)
      refine aw_iconst (npc := 59) (v := 1) (by decide) dX0_termYielded_58 rfl ?_
      refine aw_iload_n (npc := 60) rfl dX0_termYielded_59 rfl ?_
      refine aw_isubV (npc := 61) (v := 0) dX0_termYielded_60 rfl (by decide) ?_
      refine aw_goto (npc := 65) dX0_termYielded_61 (by decide) ?_
      refine aw_istore (npc := 67) (L' := [some (.ref b), some (.int (nI f)), some (.int 3), some (.int 1), some (.int 1), some (.int 0), some (.int 0), none, none, none, none, none]) dX0_termYielded_65 rfl (by decide) rfl rfl ?_
      refine aw_iconst (npc := 68) (v := -1) (by decide) dX0_termYielded_67 rfl ?_
      refine aw_istore (npc := 70) (L' := [some (.ref b), some (.int (nI f)), some (.int 3), some (.int 1), some (.int 1), some (.int 0), some (.int 0), some (.int (-1)), none, none, none, none]) dX0_termYielded_68 rfl (by decide) rfl rfl ?_
      refine aw_iconst (npc := 71) (v := 0) (by decide) dX0_termYielded_70 rfl ?_
      refine aw_istore (npc := 73) (L' := [some (.ref b), some (.int (nI f)), some (.int 3), some (.int 1), some (.int 1), some (.int 0), some (.int 0), some (.int (-1)), some (.int 0), none, none, none]) dX0_termYielded_71 rfl (by decide) rfl rfl ?_
      refine aw_iconst (npc := 74) (v := 0) (by decide) dX0_termYielded_73 rfl ?_
      refine aw_istore (npc := 76) (L' := [some (.ref b), some (.int (nI f)), some (.int 3), some (.int 1), some (.int 1), some (.int 0), some (.int 0), some (.int (-1)), some (.int 0), some (.int 0), none, none]) dX0_termYielded_74 rfl (by decide) rfl rfl ?_
      refine aw_locs (L' := [some (.ref b), some (.int (nI f)), some (.int 3), some (.int 1), some (.int 1), some (.int 0), some (.int 0), some (.int (-1)), some (.int 0), some (.int (nI 0)), none, none]) rfl ?_
      refine g_tyL100 F 4 0 (by omega) (-1) 0 none none ?_
      exact (show ty N f = (tyM 1 0 0 N 4 0 (-1, 0)).1 by simp [ty, tyK, ek, es]) ▸ hq
  · refine aw_top (y := 4) ek ?_
    refine aw_istore_n (npc := 7) (L' := [some (.ref b), some (.int (nI f)), some (.int 4), none, none, none, none, none, none, none, none, none]) dX0_termYielded_6 rfl (by decide) rfl rfl ?_
    refine aw_aload_n (npc := 8) rfl dX0_termYielded_7 rfl ?_
    refine aw_get (npc := 11) dX0_termYielded_8 rfl kf_X0_46 F.1 rfl ?_
    refine aw_iload_n (npc := 12) rfl dX0_termYielded_11 rfl ?_
    refine aw_iald (npc := 13) (x := N (23 + 5 * f)) (j := f) dX0_termYielded_12 rfl F.2.2.2.2.2.1 (am_ix_nI (by omega)) (tl_at (by omega)) ?_
    rcases wi_c0_1 hs with es | es
    · refine aw_top (y := 0) es ?_
      refine aw_istore_n (npc := 14) (L' := [some (.ref b), some (.int (nI f)), some (.int 4), some (.int 0), none, none, none, none, none, none, none, none]) dX0_termYielded_13 rfl (by decide) rfl rfl ?_
      refine aw_iload_n (npc := 15) rfl dX0_termYielded_14 rfl ?_
      refine aw_iconst (npc := 16) (v := 1) (by decide) dX0_termYielded_15 rfl ?_
      refine aw_icmp_eq (npc := 19) (tgt := 29) dX0_termYielded_16 rfl (by decide) (fun hc => absurd hc (by decide)) (fun _ => ?_)
      refine aw_iload_n (npc := 20) rfl dX0_termYielded_19 rfl ?_
      refine aw_iconst (npc := 21) (v := 3) (by decide) dX0_termYielded_20 rfl ?_
      refine aw_icmp_eq (npc := 24) (tgt := 29) dX0_termYielded_21 rfl (by decide) (fun hc => absurd hc (by decide)) (fun _ => ?_)
      refine aw_iload_n (npc := 25) rfl dX0_termYielded_24 rfl ?_
      refine aw_iconst (npc := 26) (v := 4) (by decide) dX0_termYielded_25 rfl ?_
      refine aw_icmp_ne (npc := 29) (tgt := 33) dX0_termYielded_26 rfl (by decide) (fun hc => absurd (by decide) hc) (fun _ => ?_)
      refine aw_iconst (npc := 30) (v := 1) (by decide) dX0_termYielded_29 rfl ?_
      refine aw_goto (npc := 34) dX0_termYielded_30 (by decide) ?_
      refine aw_istore (npc := 36) (L' := [some (.ref b), some (.int (nI f)), some (.int 4), some (.int 0), some (.int 1), none, none, none, none, none, none, none]) dX0_termYielded_34 rfl (by decide) rfl rfl ?_
      refine aw_iload_n (npc := 37) rfl dX0_termYielded_36 rfl ?_
      refine aw_iconst (npc := 38) (v := 4) (by decide) dX0_termYielded_37 rfl ?_
      refine aw_icmp_eq (npc := 41) (tgt := 46) dX0_termYielded_38 rfl (by decide) (fun _ => ?_) (fun hc => absurd (by decide) hc)
      refine aw_iconst (npc := 47) (v := 1) (by decide) dX0_termYielded_46 rfl ?_
      refine aw_goto (npc := 51) dX0_termYielded_47 (by decide) ?_
      refine aw_istore (npc := 53) (L' := [some (.ref b), some (.int (nI f)), some (.int 4), some (.int 0), some (.int 1), some (.int 1), none, none, none, none, none, none]) dX0_termYielded_51 rfl (by decide) rfl rfl ?_
      refine aw_iload (npc := 55) rfl dX0_termYielded_53 rfl ?_
      refine aw_if_eq (npc := 58) (tgt := 64) dX0_termYielded_55 rfl (by decide) (fun hc => absurd hc (by decide)) (fun _ => ?_)
      refine aw_iconst (npc := 59) (v := 1) (by decide) dX0_termYielded_58 rfl ?_
      refine aw_iload_n (npc := 60) rfl dX0_termYielded_59 rfl ?_
      refine aw_isubV (npc := 61) (v := 1) dX0_termYielded_60 rfl (by decide) ?_
      refine aw_goto (npc := 65) dX0_termYielded_61 (by decide) ?_
      refine aw_istore (npc := 67) (L' := [some (.ref b), some (.int (nI f)), some (.int 4), some (.int 0), some (.int 1), some (.int 1), some (.int 1), none, none, none, none, none]) dX0_termYielded_65 rfl (by decide) rfl rfl ?_
      refine aw_iconst (npc := 68) (v := -1) (by decide) dX0_termYielded_67 rfl ?_
      refine aw_istore (npc := 70) (L' := [some (.ref b), some (.int (nI f)), some (.int 4), some (.int 0), some (.int 1), some (.int 1), some (.int 1), some (.int (-1)), none, none, none, none]) dX0_termYielded_68 rfl (by decide) rfl rfl ?_
      refine aw_iconst (npc := 71) (v := 0) (by decide) dX0_termYielded_70 rfl ?_
      refine aw_istore (npc := 73) (L' := [some (.ref b), some (.int (nI f)), some (.int 4), some (.int 0), some (.int 1), some (.int 1), some (.int 1), some (.int (-1)), some (.int 0), none, none, none]) dX0_termYielded_71 rfl (by decide) rfl rfl ?_
      refine aw_iconst (npc := 74) (v := 0) (by decide) dX0_termYielded_73 rfl ?_
      refine aw_istore (npc := 76) (L' := [some (.ref b), some (.int (nI f)), some (.int 4), some (.int 0), some (.int 1), some (.int 1), some (.int 1), some (.int (-1)), some (.int 0), some (.int 0), none, none]) dX0_termYielded_74 rfl (by decide) rfl rfl ?_
      refine aw_locs (L' := [some (.ref b), some (.int (nI f)), some (.int 4), some (.int 0), some (.int 1), some (.int 1), some (.int 1), some (.int (-1)), some (.int 0), some (.int (nI 0)), none, none]) rfl ?_
      refine g_tyL011 F 4 0 (by omega) (-1) 0 none none ?_
      exact (show ty N f = (tyM 0 1 4 N 4 0 (-1, 0)).1 by simp [ty, tyK, ek, es]) ▸ hq
    · refine aw_top (y := 1) es ?_
      refine aw_istore_n (npc := 14) (L' := [some (.ref b), some (.int (nI f)), some (.int 4), some (.int 1), none, none, none, none, none, none, none, none]) dX0_termYielded_13 rfl (by decide) rfl rfl ?_
      refine aw_iload_n (npc := 15) rfl dX0_termYielded_14 rfl ?_
      refine aw_iconst (npc := 16) (v := 1) (by decide) dX0_termYielded_15 rfl ?_
      refine aw_icmp_eq (npc := 19) (tgt := 29) dX0_termYielded_16 rfl (by decide) (fun hc => absurd hc (by decide)) (fun _ => ?_)
      refine aw_iload_n (npc := 20) rfl dX0_termYielded_19 rfl ?_
      refine aw_iconst (npc := 21) (v := 3) (by decide) dX0_termYielded_20 rfl ?_
      refine aw_icmp_eq (npc := 24) (tgt := 29) dX0_termYielded_21 rfl (by decide) (fun hc => absurd hc (by decide)) (fun _ => ?_)
      refine aw_iload_n (npc := 25) rfl dX0_termYielded_24 rfl ?_
      refine aw_iconst (npc := 26) (v := 4) (by decide) dX0_termYielded_25 rfl ?_
      refine aw_icmp_ne (npc := 29) (tgt := 33) dX0_termYielded_26 rfl (by decide) (fun hc => absurd (by decide) hc) (fun _ => ?_)
      refine aw_iconst (npc := 30) (v := 1) (by decide) dX0_termYielded_29 rfl ?_
      refine aw_goto (npc := 34) dX0_termYielded_30 (by decide) ?_
      refine aw_istore (npc := 36) (L' := [some (.ref b), some (.int (nI f)), some (.int 4), some (.int 1), some (.int 1), none, none, none, none, none, none, none]) dX0_termYielded_34 rfl (by decide) rfl rfl ?_
      refine aw_iload_n (npc := 37) rfl dX0_termYielded_36 rfl ?_
      refine aw_iconst (npc := 38) (v := 4) (by decide) dX0_termYielded_37 rfl ?_
      refine aw_icmp_eq (npc := 41) (tgt := 46) dX0_termYielded_38 rfl (by decide) (fun _ => ?_) (fun hc => absurd (by decide) hc)
      refine aw_iconst (npc := 47) (v := 1) (by decide) dX0_termYielded_46 rfl ?_
      refine aw_goto (npc := 51) dX0_termYielded_47 (by decide) ?_
      refine aw_istore (npc := 53) (L' := [some (.ref b), some (.int (nI f)), some (.int 4), some (.int 1), some (.int 1), some (.int 1), none, none, none, none, none, none]) dX0_termYielded_51 rfl (by decide) rfl rfl ?_
      refine aw_iload (npc := 55) rfl dX0_termYielded_53 rfl ?_
      refine aw_if_eq (npc := 58) (tgt := 64) dX0_termYielded_55 rfl (by decide) (fun hc => absurd hc (by decide)) (fun _ => ?_)
      refine aw_iconst (npc := 59) (v := 1) (by decide) dX0_termYielded_58 rfl ?_
      refine aw_iload_n (npc := 60) rfl dX0_termYielded_59 rfl ?_
      refine aw_isubV (npc := 61) (v := 0) dX0_termYielded_60 rfl (by decide) ?_
      refine aw_goto (npc := 65) dX0_termYielded_61 (by decide) ?_
      refine aw_istore (npc := 67) (L' := [some (.ref b), some (.int (nI f)), some (.int 4), some (.int 1), some (.int 1), some (.int 1), some (.int 0), none, none, none, none, none]) dX0_termYielded_65 rfl (by decide) rfl rfl ?_
      refine aw_iconst (npc := 68) (v := -1) (by decide) dX0_termYielded_67 rfl ?_
      refine aw_istore (npc := 70) (L' := [some (.ref b), some (.int (nI f)), some (.int 4), some (.int 1), some (.int 1), some (.int 1), some (.int 0), some (.int (-1)), none, none, none, none]) dX0_termYielded_68 rfl (by decide) rfl rfl ?_
      refine aw_iconst (npc := 71) (v := 0) (by decide) dX0_termYielded_70 rfl ?_
      refine aw_istore (npc := 73) (L' := [some (.ref b), some (.int (nI f)), some (.int 4), some (.int 1), some (.int 1), some (.int 1), some (.int 0), some (.int (-1)), some (.int 0), none, none, none]) dX0_termYielded_71 rfl (by decide) rfl rfl ?_
      refine aw_iconst (npc := 74) (v := 0) (by decide) dX0_termYielded_73 rfl ?_
      refine aw_istore (npc := 76) (L' := [some (.ref b), some (.int (nI f)), some (.int 4), some (.int 1), some (.int 1), some (.int 1), some (.int 0), some (.int (-1)), some (.int 0), some (.int 0), none, none]) dX0_termYielded_74 rfl (by decide) rfl rfl ?_
      refine aw_locs (L' := [some (.ref b), some (.int (nI f)), some (.int 4), some (.int 1), some (.int 1), some (.int 1), some (.int 0), some (.int (-1)), some (.int 0), some (.int (nI 0)), none, none]) rfl ?_
      refine g_tyL110 F 4 0 (by omega) (-1) 0 none none ?_
      exact (show ty N f = (tyM 1 1 0 N 4 0 (-1, 0)).1 by simp [ty, tyK, ek, es]) ▸ hq
  · refine aw_top (y := 5) ek ?_
    refine aw_istore_n (npc := 7) (L' := [some (.ref b), some (.int (nI f)), some (.int 5), none, none, none, none, none, none, none, none, none]) dX0_termYielded_6 rfl (by decide) rfl rfl ?_
    refine aw_aload_n (npc := 8) rfl dX0_termYielded_7 rfl ?_
    refine aw_get (npc := 11) dX0_termYielded_8 rfl kf_X0_46 F.1 rfl ?_
    refine aw_iload_n (npc := 12) rfl dX0_termYielded_11 rfl ?_
    refine aw_iald (npc := 13) (x := N (23 + 5 * f)) (j := f) dX0_termYielded_12 rfl F.2.2.2.2.2.1 (am_ix_nI (by omega)) (tl_at (by omega)) ?_
    rcases wi_c0_1 hs with es | es
    · refine aw_top (y := 0) es ?_
      refine aw_istore_n (npc := 14) (L' := [some (.ref b), some (.int (nI f)), some (.int 5), some (.int 0), none, none, none, none, none, none, none, none]) dX0_termYielded_13 rfl (by decide) rfl rfl ?_
      refine aw_iload_n (npc := 15) rfl dX0_termYielded_14 rfl ?_
      refine aw_iconst (npc := 16) (v := 1) (by decide) dX0_termYielded_15 rfl ?_
      refine aw_icmp_eq (npc := 19) (tgt := 29) dX0_termYielded_16 rfl (by decide) (fun hc => absurd hc (by decide)) (fun _ => ?_)
      refine aw_iload_n (npc := 20) rfl dX0_termYielded_19 rfl ?_
      refine aw_iconst (npc := 21) (v := 3) (by decide) dX0_termYielded_20 rfl ?_
      refine aw_icmp_eq (npc := 24) (tgt := 29) dX0_termYielded_21 rfl (by decide) (fun hc => absurd hc (by decide)) (fun _ => ?_)
      refine aw_iload_n (npc := 25) rfl dX0_termYielded_24 rfl ?_
      refine aw_iconst (npc := 26) (v := 4) (by decide) dX0_termYielded_25 rfl ?_
      refine aw_icmp_ne (npc := 29) (tgt := 33) dX0_termYielded_26 rfl (by decide) (fun _ => ?_) (fun hc => absurd hc (by decide))
      refine aw_iconst (npc := 34) (v := 0) (by decide) dX0_termYielded_33 rfl ?_
      refine aw_istore (npc := 36) (L' := [some (.ref b), some (.int (nI f)), some (.int 5), some (.int 0), some (.int 0), none, none, none, none, none, none, none]) dX0_termYielded_34 rfl (by decide) rfl rfl ?_
      refine aw_iload_n (npc := 37) rfl dX0_termYielded_36 rfl ?_
      refine aw_iconst (npc := 38) (v := 4) (by decide) dX0_termYielded_37 rfl ?_
      refine aw_icmp_eq (npc := 41) (tgt := 46) dX0_termYielded_38 rfl (by decide) (fun hc => absurd hc (by decide)) (fun _ => ?_)
      refine aw_iload_n (npc := 42) rfl dX0_termYielded_41 rfl ?_
      refine aw_iconst (npc := 43) (v := 5) (by decide) dX0_termYielded_42 rfl ?_
      refine aw_icmp_ne (npc := 46) (tgt := 50) dX0_termYielded_43 rfl (by decide) (fun hc => absurd (by decide) hc) (fun _ => ?_)
      refine aw_iconst (npc := 47) (v := 1) (by decide) dX0_termYielded_46 rfl ?_
      refine aw_goto (npc := 51) dX0_termYielded_47 (by decide) ?_
      refine aw_istore (npc := 53) (L' := [some (.ref b), some (.int (nI f)), some (.int 5), some (.int 0), some (.int 0), some (.int 1), none, none, none, none, none, none]) dX0_termYielded_51 rfl (by decide) rfl rfl ?_
      refine aw_iload (npc := 55) rfl dX0_termYielded_53 rfl ?_
      refine aw_if_eq (npc := 58) (tgt := 64) dX0_termYielded_55 rfl (by decide) (fun _ => ?_) (fun hc => absurd (by decide) hc)
      refine aw_iload_n (npc := 65) rfl dX0_termYielded_64 rfl ?_
      refine aw_istore (npc := 67) (L' := [some (.ref b), some (.int (nI f)), some (.int 5), some (.int 0), some (.int 0), some (.int 1), some (.int 0), none, none, none, none, none]) dX0_termYielded_65 rfl (by decide) rfl rfl ?_
      refine aw_iconst (npc := 68) (v := -1) (by decide) dX0_termYielded_67 rfl ?_
      refine aw_istore (npc := 70) (L' := [some (.ref b), some (.int (nI f)), some (.int 5), some (.int 0), some (.int 0), some (.int 1), some (.int 0), some (.int (-1)), none, none, none, none]) dX0_termYielded_68 rfl (by decide) rfl rfl ?_
      refine aw_iconst (npc := 71) (v := 0) (by decide) dX0_termYielded_70 rfl ?_
      refine aw_istore (npc := 73) (L' := [some (.ref b), some (.int (nI f)), some (.int 5), some (.int 0), some (.int 0), some (.int 1), some (.int 0), some (.int (-1)), some (.int 0), none, none, none]) dX0_termYielded_71 rfl (by decide) rfl rfl ?_
      refine aw_iconst (npc := 74) (v := 0) (by decide) dX0_termYielded_73 rfl ?_
      refine aw_istore (npc := 76) (L' := [some (.ref b), some (.int (nI f)), some (.int 5), some (.int 0), some (.int 0), some (.int 1), some (.int 0), some (.int (-1)), some (.int 0), some (.int 0), none, none]) dX0_termYielded_74 rfl (by decide) rfl rfl ?_
      refine aw_locs (L' := [some (.ref b), some (.int (nI f)), some (.int 5), some (.int 0), some (.int 0), some (.int 1), some (.int 0), some (.int (-1)), some (.int 0), some (.int (nI 0)), none, none]) rfl ?_
      refine g_tyL010 F 4 0 (by omega) (-1) 0 none none ?_
      exact (show ty N f = (tyM 0 1 0 N 4 0 (-1, 0)).1 by simp [ty, tyK, ek, es]) ▸ hq
    · refine aw_top (y := 1) es ?_
      refine aw_istore_n (npc := 14) (L' := [some (.ref b), some (.int (nI f)), some (.int 5), some (.int 1), none, none, none, none, none, none, none, none]) dX0_termYielded_13 rfl (by decide) rfl rfl ?_
      refine aw_iload_n (npc := 15) rfl dX0_termYielded_14 rfl ?_
      refine aw_iconst (npc := 16) (v := 1) (by decide) dX0_termYielded_15 rfl ?_
      refine aw_icmp_eq (npc := 19) (tgt := 29) dX0_termYielded_16 rfl (by decide) (fun hc => absurd hc (by decide)) (fun _ => ?_)
      refine aw_iload_n (npc := 20) rfl dX0_termYielded_19 rfl ?_
      refine aw_iconst (npc := 21) (v := 3) (by decide) dX0_termYielded_20 rfl ?_
      refine aw_icmp_eq (npc := 24) (tgt := 29) dX0_termYielded_21 rfl (by decide) (fun hc => absurd hc (by decide)) (fun _ => ?_)
      refine aw_iload_n (npc := 25) rfl dX0_termYielded_24 rfl ?_
      refine aw_iconst (npc := 26) (v := 4) (by decide) dX0_termYielded_25 rfl ?_
      refine aw_icmp_ne (npc := 29) (tgt := 33) dX0_termYielded_26 rfl (by decide) (fun _ => ?_) (fun hc => absurd hc (by decide))
      refine aw_iconst (npc := 34) (v := 0) (by decide) dX0_termYielded_33 rfl ?_
      refine aw_istore (npc := 36) (L' := [some (.ref b), some (.int (nI f)), some (.int 5), some (.int 1), some (.int 0), none, none, none, none, none, none, none]) dX0_termYielded_34 rfl (by decide) rfl rfl ?_
      refine aw_iload_n (npc := 37) rfl dX0_termYielded_36 rfl ?_
      refine aw_iconst (npc := 38) (v := 4) (by decide) dX0_termYielded_37 rfl ?_
      refine aw_icmp_eq (npc := 41) (tgt := 46) dX0_termYielded_38 rfl (by decide) (fun hc => absurd hc (by decide)) (fun _ => ?_)
      refine aw_iload_n (npc := 42) rfl dX0_termYielded_41 rfl ?_
      refine aw_iconst (npc := 43) (v := 5) (by decide) dX0_termYielded_42 rfl ?_
      refine aw_icmp_ne (npc := 46) (tgt := 50) dX0_termYielded_43 rfl (by decide) (fun hc => absurd (by decide) hc) (fun _ => ?_)
      refine aw_iconst (npc := 47) (v := 1) (by decide) dX0_termYielded_46 rfl ?_
      refine aw_goto (npc := 51) dX0_termYielded_47 (by decide) ?_
      refine aw_istore (npc := 53) (L' := [some (.ref b), some (.int (nI f)), some (.int 5), some (.int 1), some (.int 0), some (.int 1), none, none, none, none, none, none]) dX0_termYielded_51 rfl (by decide) rfl rfl ?_
      refine aw_iload (npc := 55) rfl dX0_termYielded_53 rfl ?_
      refine aw_if_eq (npc := 58) (tgt := 64) dX0_termYielded_55 rfl (by decide) (fun _ => ?_) (fun hc => absurd (by decide) hc)
      refine aw_iload_n (npc := 65) rfl dX0_termYielded_64 rfl ?_
      refine aw_istore (npc := 67) (L' := [some (.ref b), some (.int (nI f)), some (.int 5), some (.int 1), some (.int 0), some (.int 1), some (.int 1), none, none, none, none, none]) dX0_termYielded_65 rfl (by decide) rfl rfl ?_
      refine aw_iconst (npc := 68) (v := -1) (by decide) dX0_termYielded_67 rfl ?_
      refine aw_istore (npc := 70) (L' := [some (.ref b), some (.int (nI f)), some (.int 5), some (.int 1), some (.int 0), some (.int 1), some (.int 1), some (.int (-1)), none, none, none, none]) dX0_termYielded_68 rfl (by decide) rfl rfl ?_
      refine aw_iconst (npc := 71) (v := 0) (by decide) dX0_termYielded_70 rfl ?_
      refine aw_istore (npc := 73) (L' := [some (.ref b), some (.int (nI f)), some (.int 5), some (.int 1), some (.int 0), some (.int 1), some (.int 1), some (.int (-1)), some (.int 0), none, none, none]) dX0_termYielded_71 rfl (by decide) rfl rfl ?_
      refine aw_iconst (npc := 74) (v := 0) (by decide) dX0_termYielded_73 rfl ?_
      refine aw_istore (npc := 76) (L' := [some (.ref b), some (.int (nI f)), some (.int 5), some (.int 1), some (.int 0), some (.int 1), some (.int 1), some (.int (-1)), some (.int 0), some (.int 0), none, none]) dX0_termYielded_74 rfl (by decide) rfl rfl ?_
      refine aw_locs (L' := [some (.ref b), some (.int (nI f)), some (.int 5), some (.int 1), some (.int 0), some (.int 1), some (.int 1), some (.int (-1)), some (.int 0), some (.int (nI 0)), none, none]) rfl ?_
      refine g_tyL111 F 4 0 (by omega) (-1) 0 none none ?_
      exact (show ty N f = (tyM 1 1 4 N 4 0 (-1, 0)).1 by simp [ty, tyK, ek, es]) ▸ hq
def am_f2 (b : Nat) (h' h : am_H) : Prop := ∀ k, k < 92 → (k < b ∨ b + 12 ≤ k) → h' k = h k
theorem am_f20 {b : Nat} {h : am_H} : am_f2 b h h := fun _ _ _ => rfl
theorem am_f2U {b a : Nat} {h h' : am_H} {c : am_AC} (ha : b ≤ a ∧ a < b + 12) (hf : am_f2 b h' h) : am_f2 b (am_up h' a c) h := fun k h1 h2 => by
  rw [am_nE (by omega)]
  exact hf k h1 h2
theorem am_f2T {b : Nat} {h h' h'' : am_H} (h1 : am_f2 b h'' h') (h2 : am_f2 b h' h) : am_f2 b h'' h := fun k a c => (h1 k a c).trans (h2 k a c)
theorem am_f2B {b : Nat} {h h' : am_H} (h1 : am_fb b (b + 12) h' h) : am_f2 b h' h := fun k _ c => h1 k c
theorem am_f2C {b T : Nat} {h h' : am_H} (h1 : am_fb 92 (92 + 3 * T) h' h) : am_f2 b h' h := fun k a _ => h1 k (Or.inl a)
theorem qr_mv {b : Nat} {N : Nat → Int32} {tx : List Value} {lk mv mv' : Nat → Int32} {h : am_H} (hm : ∀ i, i < 4 → mv i = mv' i) (F : QR b N tx lk mv h) : QR b N tx lk mv' h := by
  obtain ⟨f0, f1, f2, f3, f4, f5, f6, f7, f8, f9, f10, f11⟩ := F
  exact ⟨f0, f1, f2, f3, f4, f5, f6, f7, f8, f9, f10, f11.trans (congrArg (fun l : List Int32 => (some (.inl (0, l)) : Option am_AC)) (tl_congr hm))⟩
def sentN (N : Nat → Int32) (f : Nat) : Nat → Int32 := upd N (25 + 5 * f) (N (25 + 5 * f) + 1)
def rem100 (x : Int32) : Int32 := x - x / 100 * 100
def letR (tb : TB) (tx : List Value) (lk : Nat → Int32) (f : Nat) (σ σ' : (Nat → Int32) × (Nat → Int32) × Int32 × Int32) : Prop :=
  (¬ (drawN (sentN σ.1 f)) 5 ≤ rem100 (drawV (sentN σ.1 f)) ∧ σ' = (upd (drawN (sentN σ.1 f)) 6 ((drawN (sentN σ.1 f)) 6 + 1), σ.2.1, σ.2.2.1, σ.2.2.2)) ∨
  ((drawN (sentN σ.1 f)) 5 ≤ rem100 (drawV (sentN σ.1 f)) ∧ ∃ τ, TNr tb tx lk (drawN (sentN σ.1 f)) f τ ∧
    ((¬ τ < 50 ∧ σ' = (drawN (sentN σ.1 f), σ.2.1, σ.2.2.1 + 5, σ.2.2.2)) ∨
     (τ < 50 ∧ ¬ wi (ty (drawN (sentN σ.1 f)) f) 0 3 ∧ σ' = (drawN (sentN σ.1 f), σ.2.1, σ.2.2.1, σ.2.2.2)) ∨
     (τ < 50 ∧ ∃ t, t < 4 ∧ ty (drawN (sentN σ.1 f)) f = nI t ∧ σ' = (upd (drawN (sentN σ.1 f)) (26 + 5 * f) ((drawN (sentN σ.1 f)) (26 + 5 * f) + 1), upd σ.2.1 t (σ.2.1 t + (if (drawN (sentN σ.1 f)) (23 + 5 * f) = 0 then -1 else 1)), σ.2.2.1 + (-1), σ.2.2.2 + 1))))
def LSr (tb : TB) (tx : List Value) (lk : Nat → Int32) (wo : Int32) : Nat → Nat → (Nat → Int32) × (Nat → Int32) × Int32 × Int32 → (Nat → Int32) × (Nat → Int32) × Int32 × Int32 → Prop
  | 0, _, σ, σ' => σ' = σ
  | m + 1, i, σ, σ' => ∃ σ1, ((nI i = wo ∧ σ1 = σ) ∨ (¬ nI i = wo ∧ letR tb tx lk i σ σ1)) ∧ LSr tb tx lk wo m (i + 1) σ1 σ'
theorem sd_keep {N : Nat → Int32} {f k : Nat} (h0 : k ≠ 0) (h1 : k ≠ 25 + 5 * f) : (drawN (sentN N f)) k = N k := by
  unfold drawN sentN
  rw [pk_un h0, pk_un h1]
theorem let_keep {tb : TB} {tx : List Value} {lk : Nat → Int32} {f k : Nat} {σ σ' : (Nat → Int32) × (Nat → Int32) × Int32 × Int32} (hk0 : k ≠ 0) (hk6 : k ≠ 6) (hk1 : k ≠ 25 + 5 * f) (hk2 : k ≠ 26 + 5 * f) (h : letR tb tx lk f σ σ') : σ'.1 k = σ.1 k := by
  rcases h with ⟨-, rfl⟩ | ⟨-, τ, -, ⟨-, rfl⟩ | ⟨-, -, rfl⟩ | ⟨-, t, -, -, rfl⟩⟩
  · exact (pk_un hk6).trans (sd_keep hk0 hk1)
  · exact sd_keep hk0 hk1
  · exact sd_keep hk0 hk1
  · exact (pk_un hk2).trans (sd_keep hk0 hk1)
def WK (N : Nat → Int32) : Prop := ∀ f, f < 8 → wi (N (22 + 5 * f)) 0 5 ∧ wi (N (23 + 5 * f)) 0 1
set_option maxHeartbeats 4000000 in
set_option maxRecDepth 100000 in
theorem g_letL {X : List Int32} {d rc rs n : Nat} {Q : am_Q} {b : Nat} {tx : List Value} {lk : Nat → Int32} {fr c : Nat} {wo : Int32} {tb : TB} {N0 : Nat → Int32} (hF : N0 1 = nI fr) (hfr : fr ≤ 8) (hc7 : N0 7 = nI c) (hv : TXv tb.1 c tx) (hK : WK N0) (hb : b + 12 ≤ 92) : ∀ (m i : Nat), i + m = fr → ∀ (N mv : Nat → Int32) (w s : Int32) (v5 : Option Value) (h : am_H), QR b N tx lk mv h → TT tb h → (∀ k, k ≠ 0 → k ≠ 6 → (∀ f, k ≠ 25 + 5 * f) → (∀ f, k ≠ 26 + 5 * f) → N k = N0 k) → (∀ (σ' : (Nat → Int32) × (Nat → Int32) × Int32 × Int32) (h9 : am_H) (v9 : Option Value), LSr tb tx lk wo m i (N, mv, w, s) σ' → QR b σ'.1 tx lk σ'.2.1 h9 → TT tb h9 → am_f2 b h9 h → AW X mX0_writeLetters (d + 10) rc rs 152 [some (.ref b), some (.int wo), some (.int σ'.2.2.1), some (.int σ'.2.2.2), some (.int (nI fr)), v9] [] n h9 Q) → AW X mX0_writeLetters (d + 10) rc rs 15 [some (.ref b), some (.int wo), some (.int w), some (.int s), some (.int (nI i)), v5] [] n h Q := by
  intro m
  induction m with
  | zero =>
    intro i hi N mv w s v5 h F G hkp hq
    obtain rfl : i = fr := by omega
    refine aw_iload (npc := 17) rfl dX0_writeLetters_15 rfl ?_
    refine aw_aload_n (npc := 18) rfl dX0_writeLetters_17 rfl ?_
    refine aw_get (npc := 21) dX0_writeLetters_18 rfl kf_X0_40 F.1 rfl ?_
    refine aw_top (y := nI i) ((hkp 1 (by omega) (by omega) (by omega) (by omega)).trans hF) ?_
    refine aw_icmp_ge (npc := 24) (tgt := 152) dX0_writeLetters_21 rfl (by decide) (fun _ => ?_) (fun hc => absurd (nI_le (Nat.le_refl _) (by omega)) hc)
    exact hq (N, mv, w, s) h v5 rfl F G am_f20
  | succ m ih =>
    intro i hi N mv w s v5 h F G hkp hq
    have hc7 : N 7 = nI c := (hkp 7 (by omega) (by omega) (by omega) (by omega)).trans hc7
    have hK : WK N := fun f hf => by
      rw [hkp (22 + 5 * f) (by omega) (by omega) (by omega) (by omega), hkp (23 + 5 * f) (by omega) (by omega) (by omega) (by omega)]
      exact hK f hf
    refine aw_iload (npc := 17) rfl dX0_writeLetters_15 rfl ?_
    refine aw_aload_n (npc := 18) rfl dX0_writeLetters_17 rfl ?_
    refine aw_get (npc := 21) dX0_writeLetters_18 rfl kf_X0_40 F.1 rfl ?_
    refine aw_top (y := nI fr) ((hkp 1 (by omega) (by omega) (by omega) (by omega)).trans hF) ?_
    refine aw_icmp_ge (npc := 24) (tgt := 152) dX0_writeLetters_21 rfl (by decide) (fun hc => absurd hc (nI_ge (a := i) (b := fr) (by omega) (by omega))) (fun _ => ?_)
    refine aw_iload (npc := 26) rfl dX0_writeLetters_24 rfl ?_
    refine aw_iload_n (npc := 27) rfl dX0_writeLetters_26 rfl ?_
    refine aw_icmp_ne (npc := 30) (tgt := 33) dX0_writeLetters_27 rfl (by decide) (fun hc2 => ?_) (fun hc2 => ?_)
    · refine aw_aload_n (npc := 34) rfl dX0_writeLetters_33 rfl ?_
      refine aw_get (npc := 37) dX0_writeLetters_34 rfl kf_X0_52 F.1 rfl ?_
      refine aw_iload (npc := 39) rfl dX0_writeLetters_37 rfl ?_
      refine aw_dup2 (npc := 40) rfl rfl dX0_writeLetters_39 rfl ?_
      refine aw_iald (npc := 41) (x := N (25 + 5 * i)) (j := i) dX0_writeLetters_40 rfl F.2.2.2.2.2.2.2.1 (am_ix_nI (by omega)) (tl_at (by omega)) ?_
      refine aw_iconst (npc := 42) (v := 1) (by decide) dX0_writeLetters_41 rfl ?_
      refine aw_iadd (npc := 43) dX0_writeLetters_42 rfl ?_
      refine aw_iast (npc := 44) (j := i) dX0_writeLetters_43 rfl F.2.2.2.2.2.2.2.1 (am_ix_nI (by omega)) (by rw [tl_len]; omega) rfl ?_
      have F3 := qr_sent (j := i) (v := (N (25 + 5 * i)) + 1) F (by omega)
      have G4 := tt_out (k := b + 7) (c := .inl (0, (tl 8 (fun z9 => N (25 + 5 * z9))).set i ((N (25 + 5 * i)) + 1))) (by omega) G
      refine aw_aload_n (npc := 45) rfl dX0_writeLetters_44 rfl ?_
      refine aw_callV (npc := 48) (N := mX0_draw) (b := b) (mc := 0) (ms := 0) (A := []) (S := []) (L0 := [some (.ref b)]) dX0_writeLetters_45 rfl km_X0_draw kk_X0_133 F3.1 ⟨by decide, rfl⟩ rfl ⟨rfl, by decide⟩ rfl (Nat.le_of_ble_eq_true rfl) (Nat.zero_add _) (Nat.zero_add _) rfl ?_
      refine g_draw F3 (fun hp7 F6 fz5 => ?_)
      have G8 := tt_frame G4 (fun k hk => fz5 k (by omega))
      have F9 : QR b (drawN (sentN N i)) tx lk mv hp7 := F6
      refine aw_re (S' := [.int (drawV (sentN N i))]) rfl ?_
      refine aw_bipush (npc := 50) (v := 100) (by decide) dX0_writeLetters_48 rfl ?_
      refine aw_irem (npc := 51) (by decide) dX0_writeLetters_50 rfl ?_
      refine aw_aload_n (npc := 52) rfl dX0_writeLetters_51 rfl ?_
      refine aw_get (npc := 55) dX0_writeLetters_52 rfl kf_X0_28 F9.1 rfl ?_
      refine aw_icmp_ge (npc := 58) (tgt := 71) dX0_writeLetters_55 rfl (by decide) (fun hc10 => ?_) (fun hc10 => ?_)
      · refine aw_aload_n (npc := 72) rfl dX0_writeLetters_71 rfl ?_
        refine aw_iload (npc := 74) rfl dX0_writeLetters_72 rfl ?_
        refine aw_callV (npc := 77) (N := mX0_toneOf) (b := b) (mc := 0) (ms := 0) (A := [.int (nI i)]) (S := []) (L0 := [some (.ref b), some (.int (nI i)), none, none]) dX0_writeLetters_74 rfl km_X0_toneOf kk_X0_137 F9.1 ⟨by decide, rfl⟩ rfl ⟨rfl, by decide⟩ rfl (Nat.le_of_ble_eq_true rfl) (Nat.zero_add _) (Nat.zero_add _) rfl ?_
        refine g_tone F9 G8 ((sd_keep (by omega) (by omega)).trans hc7) hv (by omega) (by rw [sd_keep (by omega) (by omega)]; exact (hK i (by omega)).1) (by omega) (fun τ15 hp14 ht16 F12 G13 fz11 => ?_)
        refine aw_re (S' := [.int τ15]) rfl ?_
        refine aw_bipush (npc := 79) (v := 50) (by decide) dX0_writeLetters_77 rfl ?_
        refine aw_icmp_lt (npc := 82) (tgt := 88) dX0_writeLetters_79 rfl (by decide) (fun hc17 => ?_) (fun hc17 => ?_)
        · refine aw_aload_n (npc := 89) rfl dX0_writeLetters_88 rfl ?_
          refine aw_iload (npc := 91) rfl dX0_writeLetters_89 rfl ?_
          refine aw_callV (npc := 94) (N := mX0_termYielded) (b := b) (mc := 0) (ms := 0) (A := [.int (nI i)]) (S := []) (L0 := [some (.ref b), some (.int (nI i)), none, none, none, none, none, none, none, none, none, none]) dX0_writeLetters_91 rfl km_X0_termYielded kk_X0_140 F12.1 ⟨by decide, rfl⟩ rfl ⟨rfl, by decide⟩ rfl (Nat.le_of_ble_eq_true rfl) (Nat.zero_add _) (Nat.zero_add _) rfl ?_
          refine g_term F12 (by omega) (by rw [sd_keep (by omega) (by omega)]; exact (hK i (by omega)).1) (by rw [sd_keep (by omega) (by omega)]; exact (hK i (by omega)).2) ?_
          refine aw_re (S' := [.int (ty (drawN (sentN N i)) i)]) rfl ?_
          refine aw_istore (npc := 96) (L' := [some (.ref b), some (.int wo), some (.int w), some (.int s), some (.int (nI i)), some (.int (ty (drawN (sentN N i)) i))]) dX0_writeLetters_94 rfl (by decide) rfl rfl ?_
          refine aw_iload (npc := 98) rfl dX0_writeLetters_96 rfl ?_
          refine aw_callSN (npc := 101) (N := mX7_isTerm) (mc := 0) (ms := 0) (A := [.int (ty (drawN (sentN N i)) i)]) (S := []) (L0 := [some (.int (ty (drawN (sentN N i)) i))]) dX0_writeLetters_98 rfl km_X7_isTerm kk_X0_143 rfl ⟨rfl, by decide⟩ rfl (Nat.le_of_ble_eq_true rfl) (Nat.zero_add _) (Nat.zero_add _) rfl ?_
          refine c_X7_isTerm (fun hw18 => ?_) (fun hw18 => ?_)
          · refine aw_re (S' := [.int 1]) rfl ?_
            refine aw_if_eq (npc := 104) (tgt := 146) dX0_writeLetters_101 rfl (by decide) (fun hc => absurd hc (by decide)) (fun _ => ?_)
            obtain ⟨t, ht3, het⟩ := wi_nI (H := 3) rfl (by decide) hw18
            have ht4 : t < 4 := by omega
            refine aw_locs (L' := [some (.ref b), some (.int wo), some (.int w), some (.int s), some (.int (nI i)), some (.int (nI t))]) (by rw [het]) ?_
            refine aw_aload_n (npc := 105) rfl dX0_writeLetters_104 rfl ?_
            refine aw_get (npc := 108) dX0_writeLetters_105 rfl kf_X0_70 F12.1 rfl ?_
            refine aw_iload (npc := 110) rfl dX0_writeLetters_108 rfl ?_
            refine aw_dup2 (npc := 111) rfl rfl dX0_writeLetters_110 rfl ?_
            refine aw_iald (npc := 112) (x := mv t) (j := t) dX0_writeLetters_111 rfl F12.2.2.2.2.2.2.2.2.2.2.2 (am_ix_nI (by omega)) (tl_at (by omega)) ?_
            refine aw_aload_n (npc := 113) rfl dX0_writeLetters_112 rfl ?_
            refine aw_get (npc := 116) dX0_writeLetters_113 rfl kf_X0_46 F12.1 rfl ?_
            refine aw_iload (npc := 118) rfl dX0_writeLetters_116 rfl ?_
            refine aw_iald (npc := 119) (x := (drawN (sentN N i)) (23 + 5 * i)) (j := i) dX0_writeLetters_118 rfl F12.2.2.2.2.2.1 (am_ix_nI (by omega)) (tl_at (by omega)) ?_
            refine aw_if_ne (npc := 122) (tgt := 126) dX0_writeLetters_119 rfl (by decide) (fun hc19 => ?_) (fun hc19 => ?_)
            · refine aw_iconst (npc := 127) (v := 1) (by decide) dX0_writeLetters_126 rfl ?_
              refine aw_iadd (npc := 128) dX0_writeLetters_127 rfl ?_
              refine aw_iast (npc := 129) (j := t) dX0_writeLetters_128 rfl F12.2.2.2.2.2.2.2.2.2.2.2 (am_ix_nI (by omega)) (by rw [tl_len]; omega) rfl ?_
              have F20 := qr_moves (j := t) (v := (mv t) + 1) F12
              have G21 := tt_out (k := b + 11) (c := .inl (0, (tl 4 mv).set t ((mv t) + 1))) (by omega) G13
              refine aw_aload_n (npc := 130) rfl dX0_writeLetters_129 rfl ?_
              refine aw_get (npc := 133) dX0_writeLetters_130 rfl kf_X0_55 F20.1 rfl ?_
              refine aw_iload (npc := 135) rfl dX0_writeLetters_133 rfl ?_
              refine aw_dup2 (npc := 136) rfl rfl dX0_writeLetters_135 rfl ?_
              refine aw_iald (npc := 137) (x := (drawN (sentN N i)) (26 + 5 * i)) (j := i) dX0_writeLetters_136 rfl F20.2.2.2.2.2.2.2.2.1 (am_ix_nI (by omega)) (tl_at (by omega)) ?_
              refine aw_iconst (npc := 138) (v := 1) (by decide) dX0_writeLetters_137 rfl ?_
              refine aw_iadd (npc := 139) dX0_writeLetters_138 rfl ?_
              refine aw_iast (npc := 140) (j := i) dX0_writeLetters_139 rfl F20.2.2.2.2.2.2.2.2.1 (am_ix_nI (by omega)) (by rw [tl_len]; omega) rfl ?_
              have F22 := qr_yield (j := i) (v := ((drawN (sentN N i)) (26 + 5 * i)) + 1) F20 (by omega)
              have G23 := tt_out (k := b + 8) (c := .inl (0, (tl 8 (fun z9 => (drawN (sentN N i)) (26 + 5 * z9))).set i (((drawN (sentN N i)) (26 + 5 * i)) + 1))) (by omega) G21
              refine aw_iinc (npc := 143) (v := w + (-1)) (L' := [some (.ref b), some (.int wo), some (.int (w + (-1))), some (.int s), some (.int (nI i)), some (.int (nI t))]) dX0_writeLetters_140 rfl rfl rfl (by decide) rfl rfl ?_
              refine aw_iinc (npc := 146) (v := s + 1) (L' := [some (.ref b), some (.int wo), some (.int (w + (-1))), some (.int (s + 1)), some (.int (nI i)), some (.int (nI t))]) dX0_writeLetters_143 rfl rfl rfl (by decide) rfl rfl ?_
              refine aw_iinc (npc := 149) (v := nI (i + 1)) (L' := [some (.ref b), some (.int wo), some (.int (w + (-1))), some (.int (s + 1)), some (.int (nI (i + 1))), some (.int (nI t))]) dX0_writeLetters_146 rfl rfl (nI_1 _) (by decide) rfl rfl ?_
              refine aw_goto (npc := 15) dX0_writeLetters_149 (by decide) ?_
              have hst : (nI i = wo ∧ ((upd (drawN (sentN N i)) (26 + 5 * i) (((drawN (sentN N i)) (26 + 5 * i)) + 1), upd mv t ((mv t) + 1), w + (-1), s + 1) : (Nat → Int32) × (Nat → Int32) × Int32 × Int32) = (N, mv, w, s)) ∨ (¬ nI i = wo ∧ letR tb tx lk i (N, mv, w, s) (upd (drawN (sentN N i)) (26 + 5 * i) (((drawN (sentN N i)) (26 + 5 * i)) + 1), upd mv t ((mv t) + 1), w + (-1), s + 1)) := Or.inr ⟨hc2, Or.inr ⟨hc10, τ15, ht16, Or.inr (Or.inr ⟨hc17, t, ht4, het, by simp only [if_neg hc19]⟩)⟩⟩
              refine ih (i + 1) (by omega) _ _ _ _ _ _ F22 G23 (fun k a1 a2 a3 a4 => ?_) (fun σ9 h9 v9 hL F9 G9 fz => hq σ9 h9 v9 ⟨_, hst, hL⟩ F9 G9 (am_f2T fz (am_f2U (by omega) (am_f2U (by omega) (am_f2T (am_f2C fz11) (am_f2T (am_f2B fz5) (am_f2U (by omega) am_f20)))))))
              rcases hst with ⟨-, e9⟩ | ⟨-, e9⟩
              · exact (congrArg (fun z => z.1 k) e9).trans (hkp k a1 a2 a3 a4)
              · exact (let_keep a1 a2 (fun z => a3 i z) (fun z => a4 i z) e9).trans (hkp k a1 a2 a3 a4)
            · refine aw_iconst (npc := 123) (v := -1) (by decide) dX0_writeLetters_122 rfl ?_
              refine aw_goto (npc := 127) dX0_writeLetters_123 (by decide) ?_
              refine aw_iadd (npc := 128) dX0_writeLetters_127 rfl ?_
              refine aw_iast (npc := 129) (j := t) dX0_writeLetters_128 rfl F12.2.2.2.2.2.2.2.2.2.2.2 (am_ix_nI (by omega)) (by rw [tl_len]; omega) rfl ?_
              have F24 := qr_moves (j := t) (v := (mv t) + (-1)) F12
              have G25 := tt_out (k := b + 11) (c := .inl (0, (tl 4 mv).set t ((mv t) + (-1)))) (by omega) G13
              refine aw_aload_n (npc := 130) rfl dX0_writeLetters_129 rfl ?_
              refine aw_get (npc := 133) dX0_writeLetters_130 rfl kf_X0_55 F24.1 rfl ?_
              refine aw_iload (npc := 135) rfl dX0_writeLetters_133 rfl ?_
              refine aw_dup2 (npc := 136) rfl rfl dX0_writeLetters_135 rfl ?_
              refine aw_iald (npc := 137) (x := (drawN (sentN N i)) (26 + 5 * i)) (j := i) dX0_writeLetters_136 rfl F24.2.2.2.2.2.2.2.2.1 (am_ix_nI (by omega)) (tl_at (by omega)) ?_
              refine aw_iconst (npc := 138) (v := 1) (by decide) dX0_writeLetters_137 rfl ?_
              refine aw_iadd (npc := 139) dX0_writeLetters_138 rfl ?_
              refine aw_iast (npc := 140) (j := i) dX0_writeLetters_139 rfl F24.2.2.2.2.2.2.2.2.1 (am_ix_nI (by omega)) (by rw [tl_len]; omega) rfl ?_
              have F26 := qr_yield (j := i) (v := ((drawN (sentN N i)) (26 + 5 * i)) + 1) F24 (by omega)
              have G27 := tt_out (k := b + 8) (c := .inl (0, (tl 8 (fun z9 => (drawN (sentN N i)) (26 + 5 * z9))).set i (((drawN (sentN N i)) (26 + 5 * i)) + 1))) (by omega) G25
              refine aw_iinc (npc := 143) (v := w + (-1)) (L' := [some (.ref b), some (.int wo), some (.int (w + (-1))), some (.int s), some (.int (nI i)), some (.int (nI t))]) dX0_writeLetters_140 rfl rfl rfl (by decide) rfl rfl ?_
              refine aw_iinc (npc := 146) (v := s + 1) (L' := [some (.ref b), some (.int wo), some (.int (w + (-1))), some (.int (s + 1)), some (.int (nI i)), some (.int (nI t))]) dX0_writeLetters_143 rfl rfl rfl (by decide) rfl rfl ?_
              refine aw_iinc (npc := 149) (v := nI (i + 1)) (L' := [some (.ref b), some (.int wo), some (.int (w + (-1))), some (.int (s + 1)), some (.int (nI (i + 1))), some (.int (nI t))]) dX0_writeLetters_146 rfl rfl (nI_1 _) (by decide) rfl rfl ?_
              refine aw_goto (npc := 15) dX0_writeLetters_149 (by decide) ?_
              have hst : (nI i = wo ∧ ((upd (drawN (sentN N i)) (26 + 5 * i) (((drawN (sentN N i)) (26 + 5 * i)) + 1), upd mv t ((mv t) + (-1)), w + (-1), s + 1) : (Nat → Int32) × (Nat → Int32) × Int32 × Int32) = (N, mv, w, s)) ∨ (¬ nI i = wo ∧ letR tb tx lk i (N, mv, w, s) (upd (drawN (sentN N i)) (26 + 5 * i) (((drawN (sentN N i)) (26 + 5 * i)) + 1), upd mv t ((mv t) + (-1)), w + (-1), s + 1)) := Or.inr ⟨hc2, Or.inr ⟨hc10, τ15, ht16, Or.inr (Or.inr ⟨hc17, t, ht4, het, by simp only [if_pos hc19]⟩)⟩⟩
              refine ih (i + 1) (by omega) _ _ _ _ _ _ F26 G27 (fun k a1 a2 a3 a4 => ?_) (fun σ9 h9 v9 hL F9 G9 fz => hq σ9 h9 v9 ⟨_, hst, hL⟩ F9 G9 (am_f2T fz (am_f2U (by omega) (am_f2U (by omega) (am_f2T (am_f2C fz11) (am_f2T (am_f2B fz5) (am_f2U (by omega) am_f20)))))))
              rcases hst with ⟨-, e9⟩ | ⟨-, e9⟩
              · exact (congrArg (fun z => z.1 k) e9).trans (hkp k a1 a2 a3 a4)
              · exact (let_keep a1 a2 (fun z => a3 i z) (fun z => a4 i z) e9).trans (hkp k a1 a2 a3 a4)
          · refine aw_re (S' := [.int 0]) rfl ?_
            refine aw_if_eq (npc := 104) (tgt := 146) dX0_writeLetters_101 rfl (by decide) (fun _ => ?_) (fun hc => absurd (by decide) hc)
            refine aw_iinc (npc := 149) (v := nI (i + 1)) (L' := [some (.ref b), some (.int wo), some (.int w), some (.int s), some (.int (nI (i + 1))), some (.int (ty (drawN (sentN N i)) i))]) dX0_writeLetters_146 rfl rfl (nI_1 _) (by decide) rfl rfl ?_
            refine aw_goto (npc := 15) dX0_writeLetters_149 (by decide) ?_
            have hst : (nI i = wo ∧ ((drawN (sentN N i), mv, w, s) : (Nat → Int32) × (Nat → Int32) × Int32 × Int32) = (N, mv, w, s)) ∨ (¬ nI i = wo ∧ letR tb tx lk i (N, mv, w, s) (drawN (sentN N i), mv, w, s)) := Or.inr ⟨hc2, Or.inr ⟨hc10, τ15, ht16, Or.inr (Or.inl ⟨hc17, hw18, rfl⟩)⟩⟩
            refine ih (i + 1) (by omega) _ _ _ _ _ _ F12 G13 (fun k a1 a2 a3 a4 => ?_) (fun σ9 h9 v9 hL F9 G9 fz => hq σ9 h9 v9 ⟨_, hst, hL⟩ F9 G9 (am_f2T fz (am_f2T (am_f2C fz11) (am_f2T (am_f2B fz5) (am_f2U (by omega) am_f20)))))
            rcases hst with ⟨-, e9⟩ | ⟨-, e9⟩
            · exact (congrArg (fun z => z.1 k) e9).trans (hkp k a1 a2 a3 a4)
            · exact (let_keep a1 a2 (fun z => a3 i z) (fun z => a4 i z) e9).trans (hkp k a1 a2 a3 a4)
        · refine aw_iinc (npc := 85) (v := w + 5) (L' := [some (.ref b), some (.int wo), some (.int (w + 5)), some (.int s), some (.int (nI i)), v5]) dX0_writeLetters_82 rfl rfl rfl (by decide) rfl rfl ?_
          refine aw_goto (npc := 146) dX0_writeLetters_85 (by decide) ?_
          refine aw_iinc (npc := 149) (v := nI (i + 1)) (L' := [some (.ref b), some (.int wo), some (.int (w + 5)), some (.int s), some (.int (nI (i + 1))), v5]) dX0_writeLetters_146 rfl rfl (nI_1 _) (by decide) rfl rfl ?_
          refine aw_goto (npc := 15) dX0_writeLetters_149 (by decide) ?_
          have hst : (nI i = wo ∧ ((drawN (sentN N i), mv, w + 5, s) : (Nat → Int32) × (Nat → Int32) × Int32 × Int32) = (N, mv, w, s)) ∨ (¬ nI i = wo ∧ letR tb tx lk i (N, mv, w, s) (drawN (sentN N i), mv, w + 5, s)) := Or.inr ⟨hc2, Or.inr ⟨hc10, τ15, ht16, Or.inl ⟨hc17, rfl⟩⟩⟩
          refine ih (i + 1) (by omega) _ _ _ _ _ _ F12 G13 (fun k a1 a2 a3 a4 => ?_) (fun σ9 h9 v9 hL F9 G9 fz => hq σ9 h9 v9 ⟨_, hst, hL⟩ F9 G9 (am_f2T fz (am_f2T (am_f2C fz11) (am_f2T (am_f2B fz5) (am_f2U (by omega) am_f20)))))
          rcases hst with ⟨-, e9⟩ | ⟨-, e9⟩
          · exact (congrArg (fun z => z.1 k) e9).trans (hkp k a1 a2 a3 a4)
          · exact (let_keep a1 a2 (fun z => a3 i z) (fun z => a4 i z) e9).trans (hkp k a1 a2 a3 a4)
      · refine aw_aload_n (npc := 59) rfl dX0_writeLetters_58 rfl ?_
        refine aw_dup (npc := 60) rfl dX0_writeLetters_59 rfl ?_
        refine aw_get (npc := 63) dX0_writeLetters_60 rfl kf_X0_31 F9.1 rfl ?_
        refine aw_iconst (npc := 64) (v := 1) (by decide) dX0_writeLetters_63 rfl ?_
        refine aw_iadd (npc := 65) dX0_writeLetters_64 rfl ?_
        refine aw_put (npc := 68) dX0_writeLetters_65 rfl kf_X0_31 F9.1 (Nat.le_of_ble_eq_true rfl) (am_ok_int _) rfl ?_
        have F28 := qr_lost (v := ((drawN (sentN N i)) 6) + 1) F9
        have G29 := tt_out (k := b) (c := .inr (0, (QO b (drawN (sentN N i))).set 6 (.int (((drawN (sentN N i)) 6) + 1)))) (by omega) G8
        refine aw_goto (npc := 146) dX0_writeLetters_68 (by decide) ?_
        refine aw_iinc (npc := 149) (v := nI (i + 1)) (L' := [some (.ref b), some (.int wo), some (.int w), some (.int s), some (.int (nI (i + 1))), v5]) dX0_writeLetters_146 rfl rfl (nI_1 _) (by decide) rfl rfl ?_
        refine aw_goto (npc := 15) dX0_writeLetters_149 (by decide) ?_
        have hst : (nI i = wo ∧ ((upd (drawN (sentN N i)) 6 (((drawN (sentN N i)) 6) + 1), mv, w, s) : (Nat → Int32) × (Nat → Int32) × Int32 × Int32) = (N, mv, w, s)) ∨ (¬ nI i = wo ∧ letR tb tx lk i (N, mv, w, s) (upd (drawN (sentN N i)) 6 (((drawN (sentN N i)) 6) + 1), mv, w, s)) := Or.inr ⟨hc2, Or.inl ⟨hc10, rfl⟩⟩
        refine ih (i + 1) (by omega) _ _ _ _ _ _ F28 G29 (fun k a1 a2 a3 a4 => ?_) (fun σ9 h9 v9 hL F9 G9 fz => hq σ9 h9 v9 ⟨_, hst, hL⟩ F9 G9 (am_f2T fz (am_f2U (by omega) (am_f2T (am_f2B fz5) (am_f2U (by omega) am_f20)))))
        rcases hst with ⟨-, e9⟩ | ⟨-, e9⟩
        · exact (congrArg (fun z => z.1 k) e9).trans (hkp k a1 a2 a3 a4)
        · exact (let_keep a1 a2 (fun z => a3 i z) (fun z => a4 i z) e9).trans (hkp k a1 a2 a3 a4)
    · refine aw_goto (npc := 146) dX0_writeLetters_30 (by decide) ?_
      refine aw_iinc (npc := 149) (v := nI (i + 1)) (L' := [some (.ref b), some (.int wo), some (.int w), some (.int s), some (.int (nI (i + 1))), v5]) dX0_writeLetters_146 rfl rfl (nI_1 _) (by decide) rfl rfl ?_
      refine aw_goto (npc := 15) dX0_writeLetters_149 (by decide) ?_
      have hst : (nI i = wo ∧ ((N, mv, w, s) : (Nat → Int32) × (Nat → Int32) × Int32 × Int32) = (N, mv, w, s)) ∨ (¬ nI i = wo ∧ letR tb tx lk i (N, mv, w, s) (N, mv, w, s)) := Or.inl ⟨hc2, rfl⟩
      refine ih (i + 1) (by omega) _ _ _ _ _ _ F G (fun k a1 a2 a3 a4 => ?_) (fun σ9 h9 v9 hL F9 G9 fz => hq σ9 h9 v9 ⟨_, hst, hL⟩ F9 G9 (am_f2T fz am_f20))
      rcases hst with ⟨-, e9⟩ | ⟨-, e9⟩
      · exact (congrArg (fun z => z.1 k) e9).trans (hkp k a1 a2 a3 a4)
      · exact (let_keep a1 a2 (fun z => a3 i z) (fun z => a4 i z) e9).trans (hkp k a1 a2 a3 a4)
def endN (σ : (Nat → Int32) × (Nat → Int32) × Int32 × Int32) : Nat → Int32 := upd (upd (upd (upd (upd σ.1 (8 + 1 * 0) (hw (σ.1 8 + σ.2.1 0) 9)) (8 + 1 * 1) (hw (σ.1 9 + σ.2.1 1) 9)) (8 + 1 * 2) (hw (σ.1 10 + σ.2.1 2) 9)) (8 + 1 * 3) (hw (σ.1 11 + σ.2.1 3) 9)) 3 (hw (σ.1 3 + σ.2.2.1) 99)
def postR (fr : Nat) (tb : TB) (tx : List Value) (lk : Nat → Int32) (wo : Int32) (N N' : Nat → Int32) (s : Int32) : Prop := ∃ σ, LSr tb tx lk wo fr 0 (N, (fun _ => 0), 0, 0) σ ∧ N' = endN σ ∧ s = σ.2.2.2
theorem ls_keep {tb : TB} {tx : List Value} {lk : Nat → Int32} {wo : Int32} {k : Nat} (hk0 : k ≠ 0) (hk6 : k ≠ 6) (hk1 : ∀ f, k ≠ 25 + 5 * f) (hk2 : ∀ f, k ≠ 26 + 5 * f) : ∀ {m i : Nat} {σ σ' : (Nat → Int32) × (Nat → Int32) × Int32 × Int32}, LSr tb tx lk wo m i σ σ' → σ'.1 k = σ.1 k
  | 0, _, _, _, h => by rw [show _ = _ from h]
  | m + 1, i, σ, σ', h => by
    obtain ⟨σ1, h1, h2⟩ := h
    refine (ls_keep hk0 hk6 hk1 hk2 h2).trans ?_
    rcases h1 with ⟨-, rfl⟩ | ⟨-, h1⟩
    · rfl
    · exact let_keep hk0 hk6 (hk1 i) (hk2 i) h1
def keepK (k : Nat) : Prop := k ≠ 0 ∧ k ≠ 6 ∧ k ≠ 3 ∧ (k < 8 ∨ 12 ≤ k) ∧ (∀ f, k ≠ 25 + 5 * f) ∧ (∀ f, k ≠ 26 + 5 * f)
theorem post_keep {fr : Nat} {tb : TB} {tx : List Value} {lk : Nat → Int32} {wo s : Int32} {N N' : Nat → Int32} {k : Nat} (hk : keepK k) (h : postR fr tb tx lk wo N N' s) : N' k = N k := by
  obtain ⟨σ, h1, rfl, -⟩ := h
  obtain ⟨a1, a2, a3, a4, a5, a6⟩ := hk
  refine Eq.trans ?_ (ls_keep a1 a2 a5 a6 h1)
  unfold endN
  rw [pk_un (by omega), pk_un (by omega), pk_un (by omega), pk_un (by omega), pk_un (by omega)]
def runR (fr : Nat) (tb : TB) (tx : List Value) (lk : Nat → Int32) (wo : Int32) : Nat → (Nat → Int32) → Int32 → (Nat → Int32) → Int32 → Prop
  | 0, N, s, N', s' => N' = N ∧ s' = s
  | m + 1, N, s, N', s' => ((peace N ∨ duel N) ∧ N' = N ∧ s' = s) ∨ (¬ peace N ∧ ¬ duel N ∧ ∃ N1 s1, postR fr tb tx lk wo N N1 s1 ∧ runR fr tb tx lk wo m N1 (s + s1) N' s')
theorem run_keep {fr : Nat} {tb : TB} {tx : List Value} {lk : Nat → Int32} {wo : Int32} {k : Nat} (hk : keepK k) : ∀ {m : Nat} {N N' : Nat → Int32} {s s' : Int32}, runR fr tb tx lk wo m N s N' s' → N' k = N k
  | 0, _, _, _, _, h => by rw [h.1]
  | m + 1, N, N', s, s', h => by
    rcases h with ⟨-, rfl, -⟩ | ⟨-, -, N1, s1, h1, h2⟩
    · rfl
    · exact (run_keep hk h2).trans (post_keep hk h1)
set_option maxHeartbeats 4000000 in
set_option maxRecDepth 100000 in
theorem g_write {X : List Int32} {d rc rs n : Nat} {Q : am_Q} {b : Nat} {N : Nat → Int32} {tx : List Value} {lk mv : Nat → Int32} {h : am_H} {fr c : Nat} {wo : Int32} {tb : TB} (F : QR b N tx lk mv h) (G : TT tb h) (hF : N 1 = nI fr) (hfr : fr ≤ 8) (hc7 : N 7 = nI c) (hv : TXv tb.1 c tx) (hK : WK N) (hb : b + 12 ≤ 92) (hq : ∀ N9 s9 mv9 h9, postR fr tb tx lk wo N N9 s9 → QR b N9 tx lk mv9 h9 → TT tb h9 → am_f2 b h9 h → Q (some (.int s9)) n h9) : AW X mX0_writeLetters (d + 12) rc rs 0 [some (.ref b), some (.int wo), none, none, none, none] [] n h Q := by
  refine aw_aload_n (npc := 1) rfl dX0_writeLetters_0 rfl ?_
  refine aw_get (npc := 4) dX0_writeLetters_1 rfl kf_X0_70 F.1 rfl ?_
  refine aw_iconst (npc := 5) (v := 0) (by decide) dX0_writeLetters_4 rfl ?_
  refine aw_callS (npc := 8) (N := mJ7_fill_53178) (mc := 0) (ms := 0) (A := [.ref (b + 11), .int 0]) (S := []) (L0 := [some (.ref (b + 11)), some (.int 0), none, none]) dX0_writeLetters_5 rfl km_J7_fill_53178 kk_X0_127 rfl ⟨rfl, by decide⟩ rfl (Nat.le_of_ble_eq_true rfl) (Nat.zero_add _) (Nat.zero_add _) rfl ?_
  refine aw_iconst (npc := 1) (v := 0) (by decide) dJ7_fill_53178_0 rfl ?_
  refine aw_istore_n (npc := 2) (L' := [some (.ref (b + 11)), some (.int 0), some (.int 0), none]) dJ7_fill_53178_1 rfl (by decide) rfl rfl ?_
  refine aw_aload_n (npc := 3) rfl dJ7_fill_53178_2 rfl ?_
  refine aw_alen (npc := 4) (v := 4) dJ7_fill_53178_3 rfl F.2.2.2.2.2.2.2.2.2.2.2 (by rw [tl_len]; rfl) ?_
  refine aw_istore_n (npc := 5) (L' := [some (.ref (b + 11)), some (.int 0), some (.int 0), some (.int 4)]) dJ7_fill_53178_4 rfl (by decide) rfl rfl ?_
  refine aw_iload_n (npc := 6) rfl dJ7_fill_53178_5 rfl ?_
  refine aw_iload_n (npc := 7) rfl dJ7_fill_53178_6 rfl ?_
  refine aw_icmp_ge (npc := 10) (tgt := 20) dJ7_fill_53178_7 rfl (by decide) (fun hc => absurd hc (by decide)) (fun _ => ?_)
  refine aw_aload_n (npc := 11) rfl dJ7_fill_53178_10 rfl ?_
  refine aw_iload_n (npc := 12) rfl dJ7_fill_53178_11 rfl ?_
  refine aw_iload_n (npc := 13) rfl dJ7_fill_53178_12 rfl ?_
  refine aw_iast (npc := 14) (j := 0) dJ7_fill_53178_13 rfl F.2.2.2.2.2.2.2.2.2.2.2 ⟨by decide, by decide⟩ (by rw [tl_len]; omega) rfl ?_
  have F1 := qr_moves (j := 0) (v := 0) F
  have G2 := tt_out (k := b + 11) (c := .inl (0, (tl 4 mv).set 0 0)) (by omega) G
  refine aw_iinc (npc := 17) (v := 1) (L' := [some (.ref (b + 11)), some (.int 0), some (.int 1), some (.int 4)]) dJ7_fill_53178_14 rfl rfl (by decide) (by decide) rfl rfl ?_
  refine aw_goto (npc := 5) dJ7_fill_53178_17 (by decide) ?_
  refine aw_iload_n (npc := 6) rfl dJ7_fill_53178_5 rfl ?_
  refine aw_iload_n (npc := 7) rfl dJ7_fill_53178_6 rfl ?_
  refine aw_icmp_ge (npc := 10) (tgt := 20) dJ7_fill_53178_7 rfl (by decide) (fun hc => absurd hc (by decide)) (fun _ => ?_)
  refine aw_aload_n (npc := 11) rfl dJ7_fill_53178_10 rfl ?_
  refine aw_iload_n (npc := 12) rfl dJ7_fill_53178_11 rfl ?_
  refine aw_iload_n (npc := 13) rfl dJ7_fill_53178_12 rfl ?_
  refine aw_iast (npc := 14) (j := 1) dJ7_fill_53178_13 rfl F1.2.2.2.2.2.2.2.2.2.2.2 ⟨by decide, by decide⟩ (by rw [tl_len]; omega) rfl ?_
  have F3 := qr_moves (j := 1) (v := 0) F1
  have G4 := tt_out (k := b + 11) (c := .inl (0, (tl 4 (upd mv 0 0)).set 1 0)) (by omega) G2
  refine aw_iinc (npc := 17) (v := 2) (L' := [some (.ref (b + 11)), some (.int 0), some (.int 2), some (.int 4)]) dJ7_fill_53178_14 rfl rfl (by decide) (by decide) rfl rfl ?_
  refine aw_goto (npc := 5) dJ7_fill_53178_17 (by decide) ?_
  refine aw_iload_n (npc := 6) rfl dJ7_fill_53178_5 rfl ?_
  refine aw_iload_n (npc := 7) rfl dJ7_fill_53178_6 rfl ?_
  refine aw_icmp_ge (npc := 10) (tgt := 20) dJ7_fill_53178_7 rfl (by decide) (fun hc => absurd hc (by decide)) (fun _ => ?_)
  refine aw_aload_n (npc := 11) rfl dJ7_fill_53178_10 rfl ?_
  refine aw_iload_n (npc := 12) rfl dJ7_fill_53178_11 rfl ?_
  refine aw_iload_n (npc := 13) rfl dJ7_fill_53178_12 rfl ?_
  refine aw_iast (npc := 14) (j := 2) dJ7_fill_53178_13 rfl F3.2.2.2.2.2.2.2.2.2.2.2 ⟨by decide, by decide⟩ (by rw [tl_len]; omega) rfl ?_
  have F5 := qr_moves (j := 2) (v := 0) F3
  have G6 := tt_out (k := b + 11) (c := .inl (0, (tl 4 (upd (upd mv 0 0) 1 0)).set 2 0)) (by omega) G4
  refine aw_iinc (npc := 17) (v := 3) (L' := [some (.ref (b + 11)), some (.int 0), some (.int 3), some (.int 4)]) dJ7_fill_53178_14 rfl rfl (by decide) (by decide) rfl rfl ?_
  refine aw_goto (npc := 5) dJ7_fill_53178_17 (by decide) ?_
  refine aw_iload_n (npc := 6) rfl dJ7_fill_53178_5 rfl ?_
  refine aw_iload_n (npc := 7) rfl dJ7_fill_53178_6 rfl ?_
  refine aw_icmp_ge (npc := 10) (tgt := 20) dJ7_fill_53178_7 rfl (by decide) (fun hc => absurd hc (by decide)) (fun _ => ?_)
  refine aw_aload_n (npc := 11) rfl dJ7_fill_53178_10 rfl ?_
  refine aw_iload_n (npc := 12) rfl dJ7_fill_53178_11 rfl ?_
  refine aw_iload_n (npc := 13) rfl dJ7_fill_53178_12 rfl ?_
  refine aw_iast (npc := 14) (j := 3) dJ7_fill_53178_13 rfl F5.2.2.2.2.2.2.2.2.2.2.2 ⟨by decide, by decide⟩ (by rw [tl_len]; omega) rfl ?_
  have F7 := qr_moves (j := 3) (v := 0) F5
  have G8 := tt_out (k := b + 11) (c := .inl (0, (tl 4 (upd (upd (upd mv 0 0) 1 0) 2 0)).set 3 0)) (by omega) G6
  refine aw_iinc (npc := 17) (v := 4) (L' := [some (.ref (b + 11)), some (.int 0), some (.int 4), some (.int 4)]) dJ7_fill_53178_14 rfl rfl (by decide) (by decide) rfl rfl ?_
  refine aw_goto (npc := 5) dJ7_fill_53178_17 (by decide) ?_
  refine aw_iload_n (npc := 6) rfl dJ7_fill_53178_5 rfl ?_
  refine aw_iload_n (npc := 7) rfl dJ7_fill_53178_6 rfl ?_
  refine aw_icmp_ge (npc := 10) (tgt := 20) dJ7_fill_53178_7 rfl (by decide) (fun _ => ?_) (fun hc => absurd (by decide) hc)
  refine aw_vret rfl dJ7_fill_53178_20 ?_
  refine aw_iconst (npc := 9) (v := 0) (by decide) dX0_writeLetters_8 rfl ?_
  refine aw_istore_n (npc := 10) (L' := [some (.ref b), some (.int wo), some (.int 0), none, none, none]) dX0_writeLetters_9 rfl (by decide) rfl rfl ?_
  refine aw_iconst (npc := 11) (v := 0) (by decide) dX0_writeLetters_10 rfl ?_
  refine aw_istore_n (npc := 12) (L' := [some (.ref b), some (.int wo), some (.int 0), some (.int 0), none, none]) dX0_writeLetters_11 rfl (by decide) rfl rfl ?_
  refine aw_iconst (npc := 13) (v := 0) (by decide) dX0_writeLetters_12 rfl ?_
  refine aw_istore (npc := 15) (L' := [some (.ref b), some (.int wo), some (.int 0), some (.int 0), some (.int 0), none]) dX0_writeLetters_13 rfl (by decide) rfl rfl ?_
  have F9 := qr_mv (mv' := fun _ => 0) (fun i hi => by rcases (show i = 0 ∨ i = 1 ∨ i = 2 ∨ i = 3 by omega) with rfl | rfl | rfl | rfl <;> rfl) F7
  refine aw_locs (L' := [some (.ref b), some (.int wo), some (.int 0), some (.int 0), some (.int (nI 0)), none]) rfl ?_
  refine g_letL hF hfr hc7 hv hK hb fr 0 (by omega) N (fun _ => 0) 0 0 none _ F9 G8 (fun _ _ _ _ _ => rfl) (fun σ h9 v9 hL F9 G9 fz => ?_)
  refine aw_iconst (npc := 153) (v := 0) (by decide) dX0_writeLetters_152 rfl ?_
  refine aw_istore (npc := 155) (L' := [some (.ref b), some (.int wo), some (.int σ.2.2.1), some (.int σ.2.2.2), some (.int 0), v9]) dX0_writeLetters_153 rfl (by decide) rfl rfl ?_
  refine aw_iload (npc := 157) rfl dX0_writeLetters_155 rfl ?_
  refine aw_iconst (npc := 158) (v := 4) (by decide) dX0_writeLetters_157 rfl ?_
  refine aw_icmp_ge (npc := 161) (tgt := 194) dX0_writeLetters_158 rfl (by decide) (fun hc => absurd hc (by decide)) (fun _ => ?_)
  refine aw_aload_n (npc := 162) rfl dX0_writeLetters_161 rfl ?_
  refine aw_get (npc := 165) dX0_writeLetters_162 rfl kf_X0_9 F9.1 rfl ?_
  refine aw_iload (npc := 167) rfl dX0_writeLetters_165 rfl ?_
  refine aw_aload_n (npc := 168) rfl dX0_writeLetters_167 rfl ?_
  refine aw_get (npc := 171) dX0_writeLetters_168 rfl kf_X0_9 F9.1 rfl ?_
  refine aw_iload (npc := 173) rfl dX0_writeLetters_171 rfl ?_
  refine aw_iald (npc := 174) (x := σ.1 8) (j := 0) dX0_writeLetters_173 rfl F9.2.1 ⟨by decide, by decide⟩ (tl_at (by omega)) ?_
  refine aw_aload_n (npc := 175) rfl dX0_writeLetters_174 rfl ?_
  refine aw_get (npc := 178) dX0_writeLetters_175 rfl kf_X0_70 F9.1 rfl ?_
  refine aw_iload (npc := 180) rfl dX0_writeLetters_178 rfl ?_
  refine aw_iald (npc := 181) (x := σ.2.1 0) (j := 0) dX0_writeLetters_180 rfl F9.2.2.2.2.2.2.2.2.2.2.2 ⟨by decide, by decide⟩ (tl_at (by omega)) ?_
  refine aw_iadd (npc := 182) dX0_writeLetters_181 rfl ?_
  refine aw_bipush (npc := 184) (v := 9) (by decide) dX0_writeLetters_182 rfl ?_
  refine aw_callSN (npc := 187) (N := mX7_heldWithin) (mc := 0) (ms := 0) (A := [.int ((σ.1 8) + (σ.2.1 0)), .int 9]) (S := [.int 0, .ref (b + 1)]) (L0 := [some (.int ((σ.1 8) + (σ.2.1 0))), some (.int 9)]) dX0_writeLetters_184 rfl km_X7_heldWithin kk_X0_114 rfl ⟨rfl, by decide⟩ rfl (Nat.le_of_ble_eq_true rfl) (Nat.zero_add _) (Nat.zero_add _) rfl ?_
  refine g_held ?_
  refine aw_re (S' := [.int (hw ((σ.1 8) + (σ.2.1 0)) 9), .int 0, .ref (b + 1)]) rfl ?_
  refine aw_iast (npc := 188) (j := 0) dX0_writeLetters_187 rfl F9.2.1 ⟨by decide, by decide⟩ (by rw [tl_len]; omega) rfl ?_
  have F10 := qr_stand (j := 0) (v := hw ((σ.1 8) + (σ.2.1 0)) 9) F9 (by omega)
  have G11 := tt_out (k := b + 1) (c := .inl (0, (tl 4 (fun z9 => σ.1 (8 + 1 * z9))).set 0 (hw ((σ.1 8) + (σ.2.1 0)) 9))) (by omega) G9
  refine aw_iinc (npc := 191) (v := 1) (L' := [some (.ref b), some (.int wo), some (.int σ.2.2.1), some (.int σ.2.2.2), some (.int 1), v9]) dX0_writeLetters_188 rfl rfl (by decide) (by decide) rfl rfl ?_
  refine aw_goto (npc := 155) dX0_writeLetters_191 (by decide) ?_
  refine aw_iload (npc := 157) rfl dX0_writeLetters_155 rfl ?_
  refine aw_iconst (npc := 158) (v := 4) (by decide) dX0_writeLetters_157 rfl ?_
  refine aw_icmp_ge (npc := 161) (tgt := 194) dX0_writeLetters_158 rfl (by decide) (fun hc => absurd hc (by decide)) (fun _ => ?_)
  refine aw_aload_n (npc := 162) rfl dX0_writeLetters_161 rfl ?_
  refine aw_get (npc := 165) dX0_writeLetters_162 rfl kf_X0_9 F10.1 rfl ?_
  refine aw_iload (npc := 167) rfl dX0_writeLetters_165 rfl ?_
  refine aw_aload_n (npc := 168) rfl dX0_writeLetters_167 rfl ?_
  refine aw_get (npc := 171) dX0_writeLetters_168 rfl kf_X0_9 F10.1 rfl ?_
  refine aw_iload (npc := 173) rfl dX0_writeLetters_171 rfl ?_
  refine aw_iald (npc := 174) (x := (upd σ.1 (8 + 1 * 0) (hw ((σ.1 8) + (σ.2.1 0)) 9)) 9) (j := 1) dX0_writeLetters_173 rfl F10.2.1 ⟨by decide, by decide⟩ (tl_at (by omega)) ?_
  refine aw_top (y := σ.1 9) ((pk_un (by omega))) ?_
  refine aw_aload_n (npc := 175) rfl dX0_writeLetters_174 rfl ?_
  refine aw_get (npc := 178) dX0_writeLetters_175 rfl kf_X0_70 F10.1 rfl ?_
  refine aw_iload (npc := 180) rfl dX0_writeLetters_178 rfl ?_
  refine aw_iald (npc := 181) (x := σ.2.1 1) (j := 1) dX0_writeLetters_180 rfl F10.2.2.2.2.2.2.2.2.2.2.2 ⟨by decide, by decide⟩ (tl_at (by omega)) ?_
  refine aw_iadd (npc := 182) dX0_writeLetters_181 rfl ?_
  refine aw_bipush (npc := 184) (v := 9) (by decide) dX0_writeLetters_182 rfl ?_
  refine aw_callSN (npc := 187) (N := mX7_heldWithin) (mc := 0) (ms := 0) (A := [.int ((σ.1 9) + (σ.2.1 1)), .int 9]) (S := [.int 1, .ref (b + 1)]) (L0 := [some (.int ((σ.1 9) + (σ.2.1 1))), some (.int 9)]) dX0_writeLetters_184 rfl km_X7_heldWithin kk_X0_114 rfl ⟨rfl, by decide⟩ rfl (Nat.le_of_ble_eq_true rfl) (Nat.zero_add _) (Nat.zero_add _) rfl ?_
  refine g_held ?_
  refine aw_re (S' := [.int (hw ((σ.1 9) + (σ.2.1 1)) 9), .int 1, .ref (b + 1)]) rfl ?_
  refine aw_iast (npc := 188) (j := 1) dX0_writeLetters_187 rfl F10.2.1 ⟨by decide, by decide⟩ (by rw [tl_len]; omega) rfl ?_
  have F12 := qr_stand (j := 1) (v := hw ((σ.1 9) + (σ.2.1 1)) 9) F10 (by omega)
  have G13 := tt_out (k := b + 1) (c := .inl (0, (tl 4 (fun z9 => (upd σ.1 (8 + 1 * 0) (hw ((σ.1 8) + (σ.2.1 0)) 9)) (8 + 1 * z9))).set 1 (hw ((σ.1 9) + (σ.2.1 1)) 9))) (by omega) G11
  refine aw_iinc (npc := 191) (v := 2) (L' := [some (.ref b), some (.int wo), some (.int σ.2.2.1), some (.int σ.2.2.2), some (.int 2), v9]) dX0_writeLetters_188 rfl rfl (by decide) (by decide) rfl rfl ?_
  refine aw_goto (npc := 155) dX0_writeLetters_191 (by decide) ?_
  refine aw_iload (npc := 157) rfl dX0_writeLetters_155 rfl ?_
  refine aw_iconst (npc := 158) (v := 4) (by decide) dX0_writeLetters_157 rfl ?_
  refine aw_icmp_ge (npc := 161) (tgt := 194) dX0_writeLetters_158 rfl (by decide) (fun hc => absurd hc (by decide)) (fun _ => ?_)
  refine aw_aload_n (npc := 162) rfl dX0_writeLetters_161 rfl ?_
  refine aw_get (npc := 165) dX0_writeLetters_162 rfl kf_X0_9 F12.1 rfl ?_
  refine aw_iload (npc := 167) rfl dX0_writeLetters_165 rfl ?_
  refine aw_aload_n (npc := 168) rfl dX0_writeLetters_167 rfl ?_
  refine aw_get (npc := 171) dX0_writeLetters_168 rfl kf_X0_9 F12.1 rfl ?_
  refine aw_iload (npc := 173) rfl dX0_writeLetters_171 rfl ?_
  refine aw_iald (npc := 174) (x := (upd (upd σ.1 (8 + 1 * 0) (hw ((σ.1 8) + (σ.2.1 0)) 9)) (8 + 1 * 1) (hw ((σ.1 9) + (σ.2.1 1)) 9)) 10) (j := 2) dX0_writeLetters_173 rfl F12.2.1 ⟨by decide, by decide⟩ (tl_at (by omega)) ?_
  refine aw_top (y := σ.1 10) (((pk_un (by omega))).trans (pk_un (by omega))) ?_
  refine aw_aload_n (npc := 175) rfl dX0_writeLetters_174 rfl ?_
  refine aw_get (npc := 178) dX0_writeLetters_175 rfl kf_X0_70 F12.1 rfl ?_
  refine aw_iload (npc := 180) rfl dX0_writeLetters_178 rfl ?_
  refine aw_iald (npc := 181) (x := σ.2.1 2) (j := 2) dX0_writeLetters_180 rfl F12.2.2.2.2.2.2.2.2.2.2.2 ⟨by decide, by decide⟩ (tl_at (by omega)) ?_
  refine aw_iadd (npc := 182) dX0_writeLetters_181 rfl ?_
  refine aw_bipush (npc := 184) (v := 9) (by decide) dX0_writeLetters_182 rfl ?_
  refine aw_callSN (npc := 187) (N := mX7_heldWithin) (mc := 0) (ms := 0) (A := [.int ((σ.1 10) + (σ.2.1 2)), .int 9]) (S := [.int 2, .ref (b + 1)]) (L0 := [some (.int ((σ.1 10) + (σ.2.1 2))), some (.int 9)]) dX0_writeLetters_184 rfl km_X7_heldWithin kk_X0_114 rfl ⟨rfl, by decide⟩ rfl (Nat.le_of_ble_eq_true rfl) (Nat.zero_add _) (Nat.zero_add _) rfl ?_
  refine g_held ?_
  refine aw_re (S' := [.int (hw ((σ.1 10) + (σ.2.1 2)) 9), .int 2, .ref (b + 1)]) rfl ?_
  refine aw_iast (npc := 188) (j := 2) dX0_writeLetters_187 rfl F12.2.1 ⟨by decide, by decide⟩ (by rw [tl_len]; omega) rfl ?_
  have F14 := qr_stand (j := 2) (v := hw ((σ.1 10) + (σ.2.1 2)) 9) F12 (by omega)
  have G15 := tt_out (k := b + 1) (c := .inl (0, (tl 4 (fun z9 => (upd (upd σ.1 (8 + 1 * 0) (hw ((σ.1 8) + (σ.2.1 0)) 9)) (8 + 1 * 1) (hw ((σ.1 9) + (σ.2.1 1)) 9)) (8 + 1 * z9))).set 2 (hw ((σ.1 10) + (σ.2.1 2)) 9))) (by omega) G13
  refine aw_iinc (npc := 191) (v := 3) (L' := [some (.ref b), some (.int wo), some (.int σ.2.2.1), some (.int σ.2.2.2), some (.int 3), v9]) dX0_writeLetters_188 rfl rfl (by decide) (by decide) rfl rfl ?_
  refine aw_goto (npc := 155) dX0_writeLetters_191 (by decide) ?_
  refine aw_iload (npc := 157) rfl dX0_writeLetters_155 rfl ?_
  refine aw_iconst (npc := 158) (v := 4) (by decide) dX0_writeLetters_157 rfl ?_
  refine aw_icmp_ge (npc := 161) (tgt := 194) dX0_writeLetters_158 rfl (by decide) (fun hc => absurd hc (by decide)) (fun _ => ?_)
  refine aw_aload_n (npc := 162) rfl dX0_writeLetters_161 rfl ?_
  refine aw_get (npc := 165) dX0_writeLetters_162 rfl kf_X0_9 F14.1 rfl ?_
  refine aw_iload (npc := 167) rfl dX0_writeLetters_165 rfl ?_
  refine aw_aload_n (npc := 168) rfl dX0_writeLetters_167 rfl ?_
  refine aw_get (npc := 171) dX0_writeLetters_168 rfl kf_X0_9 F14.1 rfl ?_
  refine aw_iload (npc := 173) rfl dX0_writeLetters_171 rfl ?_
  refine aw_iald (npc := 174) (x := (upd (upd (upd σ.1 (8 + 1 * 0) (hw ((σ.1 8) + (σ.2.1 0)) 9)) (8 + 1 * 1) (hw ((σ.1 9) + (σ.2.1 1)) 9)) (8 + 1 * 2) (hw ((σ.1 10) + (σ.2.1 2)) 9)) 11) (j := 3) dX0_writeLetters_173 rfl F14.2.1 ⟨by decide, by decide⟩ (tl_at (by omega)) ?_
  refine aw_top (y := σ.1 11) ((((pk_un (by omega))).trans (pk_un (by omega))).trans (pk_un (by omega))) ?_
  refine aw_aload_n (npc := 175) rfl dX0_writeLetters_174 rfl ?_
  refine aw_get (npc := 178) dX0_writeLetters_175 rfl kf_X0_70 F14.1 rfl ?_
  refine aw_iload (npc := 180) rfl dX0_writeLetters_178 rfl ?_
  refine aw_iald (npc := 181) (x := σ.2.1 3) (j := 3) dX0_writeLetters_180 rfl F14.2.2.2.2.2.2.2.2.2.2.2 ⟨by decide, by decide⟩ (tl_at (by omega)) ?_
  refine aw_iadd (npc := 182) dX0_writeLetters_181 rfl ?_
  refine aw_bipush (npc := 184) (v := 9) (by decide) dX0_writeLetters_182 rfl ?_
  refine aw_callSN (npc := 187) (N := mX7_heldWithin) (mc := 0) (ms := 0) (A := [.int ((σ.1 11) + (σ.2.1 3)), .int 9]) (S := [.int 3, .ref (b + 1)]) (L0 := [some (.int ((σ.1 11) + (σ.2.1 3))), some (.int 9)]) dX0_writeLetters_184 rfl km_X7_heldWithin kk_X0_114 rfl ⟨rfl, by decide⟩ rfl (Nat.le_of_ble_eq_true rfl) (Nat.zero_add _) (Nat.zero_add _) rfl ?_
  refine g_held ?_
  refine aw_re (S' := [.int (hw ((σ.1 11) + (σ.2.1 3)) 9), .int 3, .ref (b + 1)]) rfl ?_
  refine aw_iast (npc := 188) (j := 3) dX0_writeLetters_187 rfl F14.2.1 ⟨by decide, by decide⟩ (by rw [tl_len]; omega) rfl ?_
  have F16 := qr_stand (j := 3) (v := hw ((σ.1 11) + (σ.2.1 3)) 9) F14 (by omega)
  have G17 := tt_out (k := b + 1) (c := .inl (0, (tl 4 (fun z9 => (upd (upd (upd σ.1 (8 + 1 * 0) (hw ((σ.1 8) + (σ.2.1 0)) 9)) (8 + 1 * 1) (hw ((σ.1 9) + (σ.2.1 1)) 9)) (8 + 1 * 2) (hw ((σ.1 10) + (σ.2.1 2)) 9)) (8 + 1 * z9))).set 3 (hw ((σ.1 11) + (σ.2.1 3)) 9))) (by omega) G15
  refine aw_iinc (npc := 191) (v := 4) (L' := [some (.ref b), some (.int wo), some (.int σ.2.2.1), some (.int σ.2.2.2), some (.int 4), v9]) dX0_writeLetters_188 rfl rfl (by decide) (by decide) rfl rfl ?_
  refine aw_goto (npc := 155) dX0_writeLetters_191 (by decide) ?_
  refine aw_iload (npc := 157) rfl dX0_writeLetters_155 rfl ?_
  refine aw_iconst (npc := 158) (v := 4) (by decide) dX0_writeLetters_157 rfl ?_
  refine aw_icmp_ge (npc := 161) (tgt := 194) dX0_writeLetters_158 rfl (by decide) (fun _ => ?_) (fun hc => absurd (by decide) hc)
  refine aw_aload_n (npc := 195) rfl dX0_writeLetters_194 rfl ?_
  refine aw_aload_n (npc := 196) rfl dX0_writeLetters_195 rfl ?_
  refine aw_get (npc := 199) dX0_writeLetters_196 rfl kf_X0_21 F16.1 rfl ?_
  refine aw_top (y := σ.1 3) (((((pk_un (by omega))).trans (pk_un (by omega))).trans (pk_un (by omega))).trans (pk_un (by omega))) ?_
  refine aw_iload_n (npc := 200) rfl dX0_writeLetters_199 rfl ?_
  refine aw_iadd (npc := 201) dX0_writeLetters_200 rfl ?_
  refine aw_bipush (npc := 203) (v := 99) (by decide) dX0_writeLetters_201 rfl ?_
  refine aw_callSN (npc := 206) (N := mX7_heldWithin) (mc := 0) (ms := 0) (A := [.int ((σ.1 3) + σ.2.2.1), .int 99]) (S := [.ref b]) (L0 := [some (.int ((σ.1 3) + σ.2.2.1)), some (.int 99)]) dX0_writeLetters_203 rfl km_X7_heldWithin kk_X0_114 rfl ⟨rfl, by decide⟩ rfl (Nat.le_of_ble_eq_true rfl) (Nat.zero_add _) (Nat.zero_add _) rfl ?_
  refine g_held ?_
  refine aw_re (S' := [.int (hw ((σ.1 3) + σ.2.2.1) 99), .ref b]) rfl ?_
  refine aw_put (npc := 209) dX0_writeLetters_206 rfl kf_X0_21 F16.1 (Nat.le_of_ble_eq_true rfl) (am_ok_int _) rfl ?_
  have F18 := qr_heat (v := hw ((σ.1 3) + σ.2.2.1) 99) F16
  have G19 := tt_out (k := b) (c := .inr (0, (QO b (upd (upd (upd (upd σ.1 (8 + 1 * 0) (hw ((σ.1 8) + (σ.2.1 0)) 9)) (8 + 1 * 1) (hw ((σ.1 9) + (σ.2.1 1)) 9)) (8 + 1 * 2) (hw ((σ.1 10) + (σ.2.1 2)) 9)) (8 + 1 * 3) (hw ((σ.1 11) + (σ.2.1 3)) 9))).set 3 (.int (hw ((σ.1 3) + σ.2.2.1) 99)))) (by omega) G17
  refine aw_iload_n (npc := 210) rfl dX0_writeLetters_209 rfl ?_
  refine aw_iret rfl dX0_writeLetters_210 ?_
  exact hq (endN σ) _ _ _ ⟨σ, hL, rfl, rfl⟩ F18 G19 (am_f2U (by omega) (am_f2U (by omega) (am_f2U (by omega) (am_f2U (by omega) (am_f2U (by omega) (am_f2T fz (am_f2U (by omega) (am_f2U (by omega) (am_f2U (by omega) (am_f2U (by omega) am_f20))))))))))
set_option maxHeartbeats 4000000 in
set_option maxRecDepth 100000 in
theorem g_runL {X : List Int32} {d rc rs n : Nat} {Q : am_Q} {b : Nat} {tx : List Value} {lk : Nat → Int32} {fr c : Nat} {wo : Int32} {tb : TB} {N0 : Nat → Int32} (hF : N0 1 = nI fr) (hfr : fr ≤ 8) (hc7 : N0 7 = nI c) (hv : TXv tb.1 c tx) (hK : WK N0) (hb : b + 12 ≤ 92) {K : Nat} (hKK : K < 1000) : ∀ (m j : Nat), j + m = K → ∀ (N : Nat → Int32) (s : Int32) (mv : Nat → Int32) (h : am_H), QR b N tx lk mv h → TT tb h → (∀ k, keepK k → N k = N0 k) → (∀ (N9 : Nat → Int32) (s9 : Int32) (mv9 : Nat → Int32) (i9 : Int32) (h9 : am_H), runR fr tb tx lk wo m N s N9 s9 → QR b N9 tx lk mv9 h9 → TT tb h9 → am_f2 b h9 h → AW X mX0_runPosts (d + 14) rc rs 39 [some (.ref b), some (.int (nI K)), some (.int wo), some (.int s9), some (.int i9)] [] n h9 Q) → AW X mX0_runPosts (d + 14) rc rs 5 [some (.ref b), some (.int (nI K)), some (.int wo), some (.int s), some (.int (nI j))] [] n h Q := by
  intro m
  induction m with
  | zero =>
    intro j hj N s mv h F G hkp hq
    obtain rfl : j = K := by omega
    refine aw_iload (npc := 7) rfl dX0_runPosts_5 rfl ?_
    refine aw_iload_n (npc := 8) rfl dX0_runPosts_7 rfl ?_
    exact aw_icmp_ge (npc := 11) (tgt := 39) dX0_runPosts_8 rfl (by decide) (fun _ => hq N s mv _ h ⟨rfl, rfl⟩ F G am_f20) (fun hc => absurd (nI_le (Nat.le_refl _) (by omega)) hc)
  | succ m ih =>
    intro j hj N s mv h F G hkp hq
    have hKN : WK N := fun f hf => by
      rw [hkp (22 + 5 * f) ⟨by omega, by omega, by omega, by omega, by omega, by omega⟩, hkp (23 + 5 * f) ⟨by omega, by omega, by omega, by omega, by omega, by omega⟩]
      exact hK f hf
    refine aw_iload (npc := 7) rfl dX0_runPosts_5 rfl ?_
    refine aw_iload_n (npc := 8) rfl dX0_runPosts_7 rfl ?_
    refine aw_icmp_ge (npc := 11) (tgt := 39) dX0_runPosts_8 rfl (by decide) (fun hc => absurd hc (nI_ge (a := j) (b := K) (by omega) (by omega))) (fun _ => ?_)
    refine aw_aload_n (npc := 12) rfl dX0_runPosts_11 rfl ?_
    refine aw_callV (npc := 15) (N := mX0_isPeace) (b := b) (mc := 0) (ms := 0) (A := []) (S := []) (L0 := [some (.ref b)]) dX0_runPosts_12 rfl km_X0_isPeace kk_X0_117 F.1 ⟨by decide, rfl⟩ rfl ⟨rfl, by decide⟩ rfl (Nat.le_of_ble_eq_true rfl) (Nat.zero_add _) (Nat.zero_add _) rfl ?_
    refine g_peace F (fun hp2 => ?_) (fun hp2 => ?_)
    · refine aw_re (S' := [.int 1]) rfl ?_
      refine aw_if_ne (npc := 18) (tgt := 39) dX0_runPosts_15 rfl (by decide) (fun _ => ?_) (fun hc => absurd hc (by decide))
      exact hq N s mv _ h (Or.inl ⟨Or.inl hp2, rfl, rfl⟩) F G am_f20
    · refine aw_re (S' := [.int 0]) rfl ?_
      refine aw_if_ne (npc := 18) (tgt := 39) dX0_runPosts_15 rfl (by decide) (fun hc => absurd (by decide) hc) (fun _ => ?_)
      refine aw_aload_n (npc := 19) rfl dX0_runPosts_18 rfl ?_
      refine aw_callV (npc := 22) (N := mX0_isDuel) (b := b) (mc := 0) (ms := 0) (A := []) (S := []) (L0 := [some (.ref b)]) dX0_runPosts_19 rfl km_X0_isDuel kk_X0_121 F.1 ⟨by decide, rfl⟩ rfl ⟨rfl, by decide⟩ rfl (Nat.le_of_ble_eq_true rfl) (Nat.zero_add _) (Nat.zero_add _) rfl ?_
      refine g_duel F (fun hd3 => ?_) (fun hd3 => ?_)
      · refine aw_re (S' := [.int 1]) rfl ?_
        refine aw_if_ne (npc := 25) (tgt := 39) dX0_runPosts_22 rfl (by decide) (fun _ => ?_) (fun hc => absurd hc (by decide))
        exact hq N s mv _ h (Or.inl ⟨Or.inr hd3, rfl, rfl⟩) F G am_f20
      · refine aw_re (S' := [.int 0]) rfl ?_
        refine aw_if_ne (npc := 25) (tgt := 39) dX0_runPosts_22 rfl (by decide) (fun hc => absurd (by decide) hc) (fun _ => ?_)
        refine aw_iload_n (npc := 26) rfl dX0_runPosts_25 rfl ?_
        refine aw_aload_n (npc := 27) rfl dX0_runPosts_26 rfl ?_
        refine aw_iload_n (npc := 28) rfl dX0_runPosts_27 rfl ?_
        refine aw_callV (npc := 31) (N := mX0_writeLetters) (b := b) (mc := 0) (ms := 0) (A := [.int wo]) (S := [.int s]) (L0 := [some (.ref b), some (.int wo), none, none, none, none]) dX0_runPosts_28 rfl km_X0_writeLetters kk_X0_124 F.1 ⟨by decide, rfl⟩ rfl ⟨rfl, by decide⟩ rfl (Nat.le_of_ble_eq_true rfl) (Nat.zero_add _) (Nat.zero_add _) rfl ?_
        refine g_write F G ((hkp 1 ⟨by omega, by omega, by omega, by omega, by omega, by omega⟩).trans hF) hfr ((hkp 7 ⟨by omega, by omega, by omega, by omega, by omega, by omega⟩).trans hc7) hv hKN hb (fun N9 s9 mv9 h9 hpo F9 G9 fz => ?_)
        refine aw_re (S' := [.int s9, .int s]) rfl ?_
        refine aw_iadd (npc := 32) dX0_runPosts_31 rfl ?_
        refine aw_istore_n (npc := 33) (L' := [some (.ref b), some (.int (nI K)), some (.int wo), some (.int (s + s9)), some (.int (nI j))]) dX0_runPosts_32 rfl (by decide) rfl rfl ?_
        refine aw_iinc (npc := 36) (v := nI (j + 1)) (L' := [some (.ref b), some (.int (nI K)), some (.int wo), some (.int (s + s9)), some (.int (nI (j + 1)))]) dX0_runPosts_33 rfl rfl (nI_1 _) (by decide) rfl rfl ?_
        refine aw_goto (npc := 5) dX0_runPosts_36 (by decide) ?_
        refine ih (j + 1) (by omega) N9 (s + s9) mv9 h9 F9 G9 (fun k hk => (post_keep hk hpo).trans (hkp k hk)) (fun N8 s8 mv8 i8 h8 hr F8 G8 f8 => hq N8 s8 mv8 i8 h8 (Or.inr ⟨hp2, hd3, N9, s9, hpo, hr⟩) F8 G8 (am_f2T f8 (am_f2T fz am_f20)))
set_option maxHeartbeats 4000000 in
set_option maxRecDepth 100000 in
theorem g_run {X : List Int32} {d rc rs n : Nat} {Q : am_Q} {b : Nat} {N : Nat → Int32} {tx : List Value} {lk mv : Nat → Int32} {h : am_H} {fr c : Nat} {wo : Int32} {tb : TB} (F : QR b N tx lk mv h) (G : TT tb h) (hF : N 1 = nI fr) (hfr : fr ≤ 8) (hc7 : N 7 = nI c) (hv : TXv tb.1 c tx) (hK : WK N) (hb : b + 12 ≤ 92) {K : Nat} (hKK : K < 1000) (hq : ∀ N9 s9 mv9 h9, runR fr tb tx lk wo K N 0 N9 s9 → QR b (upd N9 2 (N9 2 + nI K)) tx lk mv9 h9 → TT tb h9 → am_f2 b h9 h → Q (some (.int s9)) n h9) : AW X mX0_runPosts (d + 14) rc rs 0 [some (.ref b), some (.int (nI K)), some (.int wo), none, none] [] n h Q := by
  refine aw_iconst (npc := 1) (v := 0) (by decide) dX0_runPosts_0 rfl ?_
  refine aw_istore_n (npc := 2) (L' := [some (.ref b), some (.int (nI K)), some (.int wo), some (.int 0), none]) dX0_runPosts_1 rfl (by decide) rfl rfl ?_
  refine aw_iconst (npc := 3) (v := 0) (by decide) dX0_runPosts_2 rfl ?_
  refine aw_istore (npc := 5) (L' := [some (.ref b), some (.int (nI K)), some (.int wo), some (.int 0), some (.int 0)]) dX0_runPosts_3 rfl (by decide) rfl rfl ?_
  refine aw_locs (L' := [some (.ref b), some (.int (nI K)), some (.int wo), some (.int 0), some (.int (nI 0))]) rfl ?_
  refine g_runL hF hfr hc7 hv hK hb hKK K 0 (by omega) N 0 mv h F G (fun _ _ => rfl) (fun N9 s9 mv9 i9 h9 hr F9 G9 fz => ?_)
  refine aw_aload_n (npc := 40) rfl dX0_runPosts_39 rfl ?_
  refine aw_dup (npc := 41) rfl dX0_runPosts_40 rfl ?_
  refine aw_get (npc := 44) dX0_runPosts_41 rfl kf_X0_34 F9.1 rfl ?_
  refine aw_iload_n (npc := 45) rfl dX0_runPosts_44 rfl ?_
  refine aw_iadd (npc := 46) dX0_runPosts_45 rfl ?_
  refine aw_put (npc := 49) dX0_runPosts_46 rfl kf_X0_34 F9.1 (Nat.le_of_ble_eq_true rfl) (am_ok_int _) rfl ?_
  have F1 := qr_post (v := (N9 2) + (nI K)) F9
  have G2 := tt_out (k := b) (c := .inr (0, (QO b N9).set 7 (.int ((N9 2) + (nI K))))) (by omega) G9
  refine aw_iload_n (npc := 50) rfl dX0_runPosts_49 rfl ?_
  refine aw_iret rfl dX0_runPosts_50 ?_
  exact hq N9 s9 mv9 _ hr F1 G2 (am_f2U (by omega) fz)
theorem list14 {l : List Value} (h : l.length = 14) : ∃ v0 v1 v2 v3 v4 v5 v6 v7 v8 v9 v10 v11 v12 v13 : Value, l = [v0, v1, v2, v3, v4, v5, v6, v7, v8, v9, v10, v11, v12, v13] := by
  match l, h with
  | [v0, v1, v2, v3, v4, v5, v6, v7, v8, v9, v10, v11, v12, v13], _ => exact ⟨v0, v1, v2, v3, v4, v5, v6, v7, v8, v9, v10, v11, v12, v13, rfl⟩
theorem am_cpy_all {k : Nat} {f g : Nat → Int32} : am_cpy (tl k f) (tl k g) 0 0 k = tl k f := by
  unfold am_cpy
  rw [tl_len]
  refine List.map_congr_left (fun j hj => ?_)
  have hj := List.mem_range.mp hj
  rw [if_pos (by omega), Nat.zero_add, Nat.sub_zero, List.getD_eq_getElem?_getD, tl_at hj]
  rfl
theorem aw_aastO {X : List Int32} {M : am_MD} {d rc rs pc npc n : Nat} {L : am_L} {S : List Value} {h h' : am_H} {Q : am_Q} {a j : Nat} {i : Int32} {v : Value} {vs : List Value} (hd : decode M.2.1 pc = .ok (.aastore, 1)) (hn : pc + 1 = npc) (ha : h a = some (.inr (15, vs))) (hv : v = .null ∨ ∃ b fs, v = .ref b ∧ h b = some (.inr (5, fs))) (hi : am_ix i j) (hj : j < vs.length) (hh : am_up h a (.inr (15, vs.set j v)) = h') (k : AW X M d rc rs npc L S n h' Q) : AW X M d rc rs pc L (v :: .int i :: .ref a :: S) n h Q := by
  rcases hv with rfl | ⟨b, fs, rfl, hb⟩
  · exact aw_aastN hd hn (by decide) ha hi hj hh k
  · exact aw_aast hd hn ha hb (Or.inr (Or.inr ⟨rfl, rfl⟩)) hi hj hh k
set_option maxHeartbeats 4000000 in
set_option maxRecDepth 100000 in
theorem g_bec {X : List Int32} {d rc rs n : Nat} {Q : am_Q} {b : Nat} {N : Nat → Int32} {tx : List Value} {lk mv : Nat → Int32} {h : am_H} {M : Nat → Int32} {ty : List Value} {lj mw : Nat → Int32} {e : Nat} {tb : TB} (F : QR b N tx lk mv h) (E : QR e M ty lj mw h) (G : TT tb h) (hbe : b + 12 ≤ e ∨ e + 12 ≤ b) (hb : b + 12 ≤ 92) (hl : tx.length = 14) (hl2 : ty.length = 14) (hok : ∀ (t : Nat) (v : Value), ty[t]? = some v → v = .null ∨ ∃ a, a < tb.1 ∧ v = .ref (92 + 3 * a)) (hq : ∀ h9, QR b M ty lj mv h9 → am_fb b (b + 12) h9 h → Q none n h9) : AW X mX0_becomes (d + 4) rc rs 0 [some (.ref b), some (.ref e), none] [] n h Q := by
  obtain ⟨u0, u1, u2, u3, u4, u5, u6, u7, u8, u9, u10, u11, u12, u13, rfl⟩ := list14 hl
  obtain ⟨v0, v1, v2, v3, v4, v5, v6, v7, v8, v9, v10, v11, v12, v13, rfl⟩ := list14 hl2
  refine aw_aload_n (npc := 1) rfl dX0_becomes_0 rfl ?_
  refine aw_get (npc := 4) dX0_becomes_1 rfl kf_X0_9 E.1 rfl ?_
  refine aw_iconst (npc := 5) (v := 0) (by decide) dX0_becomes_4 rfl ?_
  refine aw_aload_n (npc := 6) rfl dX0_becomes_5 rfl ?_
  refine aw_get (npc := 9) dX0_becomes_6 rfl kf_X0_9 F.1 rfl ?_
  refine aw_iconst (npc := 10) (v := 0) (by decide) dX0_becomes_9 rfl ?_
  refine aw_iconst (npc := 11) (v := 4) (by decide) dX0_becomes_10 rfl ?_
  refine aw_copyi (npc := 14) (sp := 0) (dp := 0) (mm := 4) dX0_becomes_11 rfl kac_X0_73 kac_x E.2.1 F.2.1 ⟨by decide, by decide⟩ ⟨by decide, by decide⟩ ⟨by decide, by decide⟩ (by rw [tl_len]; omega) (by rw [tl_len]; omega) (Nat.le_of_ble_eq_true rfl) (congrArg (fun l : List Int32 => am_up _ _ (.inl (0, l))) am_cpy_all) ?_
  refine aw_aload_n (npc := 15) rfl dX0_becomes_14 rfl ?_
  refine aw_get (npc := 18) dX0_becomes_15 rfl kf_X0_15 (am_ne (by omega) E.1) rfl ?_
  refine aw_iconst (npc := 19) (v := 0) (by decide) dX0_becomes_18 rfl ?_
  refine aw_aload_n (npc := 20) rfl dX0_becomes_19 rfl ?_
  refine aw_get (npc := 23) dX0_becomes_20 rfl kf_X0_15 (am_ne (by omega) F.1) rfl ?_
  refine aw_iconst (npc := 24) (v := 0) (by decide) dX0_becomes_23 rfl ?_
  refine aw_bipush (npc := 26) (v := 8) (by decide) dX0_becomes_24 rfl ?_
  refine aw_copyi (npc := 29) (sp := 0) (dp := 0) (mm := 8) dX0_becomes_26 rfl kac_X0_73 kac_x (am_ne (by omega) E.2.2.1) (am_ne (by omega) F.2.2.1) ⟨by decide, by decide⟩ ⟨by decide, by decide⟩ ⟨by decide, by decide⟩ (by rw [tl_len]; omega) (by rw [tl_len]; omega) (Nat.le_of_ble_eq_true rfl) (congrArg (fun l : List Int32 => am_up _ _ (.inl (0, l))) am_cpy_all) ?_
  refine aw_aload_n (npc := 30) rfl dX0_becomes_29 rfl ?_
  refine aw_get (npc := 33) dX0_becomes_30 rfl kf_X0_18 (am_ne (by omega) (am_ne (by omega) E.1)) rfl ?_
  refine aw_iconst (npc := 34) (v := 0) (by decide) dX0_becomes_33 rfl ?_
  refine aw_aload_n (npc := 35) rfl dX0_becomes_34 rfl ?_
  refine aw_get (npc := 38) dX0_becomes_35 rfl kf_X0_18 (am_ne (by omega) (am_ne (by omega) F.1)) rfl ?_
  refine aw_iconst (npc := 39) (v := 0) (by decide) dX0_becomes_38 rfl ?_
  refine aw_iconst (npc := 40) (v := 2) (by decide) dX0_becomes_39 rfl ?_
  refine aw_copyi (npc := 43) (sp := 0) (dp := 0) (mm := 2) dX0_becomes_40 rfl kac_X0_73 kac_x (am_ne (by omega) (am_ne (by omega) E.2.2.2.1)) (am_ne (by omega) (am_ne (by omega) F.2.2.2.1)) ⟨by decide, by decide⟩ ⟨by decide, by decide⟩ ⟨by decide, by decide⟩ (by rw [tl_len]; omega) (by rw [tl_len]; omega) (Nat.le_of_ble_eq_true rfl) (congrArg (fun l : List Int32 => am_up _ _ (.inl (0, l))) am_cpy_all) ?_
  refine aw_aload_n (npc := 44) rfl dX0_becomes_43 rfl ?_
  refine aw_aload_n (npc := 45) rfl dX0_becomes_44 rfl ?_
  refine aw_get (npc := 48) dX0_becomes_45 rfl kf_X0_21 (am_ne (by omega) (am_ne (by omega) (am_ne (by omega) E.1))) rfl ?_
  refine aw_put (npc := 51) dX0_becomes_48 rfl kf_X0_21 (am_ne (by omega) (am_ne (by omega) (am_ne (by omega) F.1))) (Nat.le_of_ble_eq_true rfl) (am_ok_int _) rfl ?_
  refine aw_aload_n (npc := 52) rfl dX0_becomes_51 rfl ?_
  refine aw_aload_n (npc := 53) rfl dX0_becomes_52 rfl ?_
  refine aw_get (npc := 56) dX0_becomes_53 rfl kf_X0_25 (am_ne (by omega) (am_ne (by omega) (am_ne (by omega) (am_ne (by omega) E.1)))) rfl ?_
  refine aw_put (npc := 59) dX0_becomes_56 rfl kf_X0_25 am_eq (Nat.le_of_ble_eq_true rfl) (am_ok_int _) am_uu ?_
  refine aw_aload_n (npc := 60) rfl dX0_becomes_59 rfl ?_
  refine aw_aload_n (npc := 61) rfl dX0_becomes_60 rfl ?_
  refine aw_get (npc := 64) dX0_becomes_61 rfl kf_X0_28 (am_ne (by omega) (am_ne (by omega) (am_ne (by omega) (am_ne (by omega) E.1)))) rfl ?_
  refine aw_put (npc := 67) dX0_becomes_64 rfl kf_X0_28 am_eq (Nat.le_of_ble_eq_true rfl) (am_ok_int _) am_uu ?_
  refine aw_aload_n (npc := 68) rfl dX0_becomes_67 rfl ?_
  refine aw_aload_n (npc := 69) rfl dX0_becomes_68 rfl ?_
  refine aw_get (npc := 72) dX0_becomes_69 rfl kf_X0_31 (am_ne (by omega) (am_ne (by omega) (am_ne (by omega) (am_ne (by omega) E.1)))) rfl ?_
  refine aw_put (npc := 75) dX0_becomes_72 rfl kf_X0_31 am_eq (Nat.le_of_ble_eq_true rfl) (am_ok_int _) am_uu ?_
  refine aw_aload_n (npc := 76) rfl dX0_becomes_75 rfl ?_
  refine aw_aload_n (npc := 77) rfl dX0_becomes_76 rfl ?_
  refine aw_get (npc := 80) dX0_becomes_77 rfl kf_X0_34 (am_ne (by omega) (am_ne (by omega) (am_ne (by omega) (am_ne (by omega) E.1)))) rfl ?_
  refine aw_put (npc := 83) dX0_becomes_80 rfl kf_X0_34 am_eq (Nat.le_of_ble_eq_true rfl) (am_ok_int _) am_uu ?_
  refine aw_aload_n (npc := 84) rfl dX0_becomes_83 rfl ?_
  refine aw_aload_n (npc := 85) rfl dX0_becomes_84 rfl ?_
  refine aw_get (npc := 88) dX0_becomes_85 rfl kf_X0_37 (am_ne (by omega) (am_ne (by omega) (am_ne (by omega) (am_ne (by omega) E.1)))) rfl ?_
  refine aw_put (npc := 91) dX0_becomes_88 rfl kf_X0_37 am_eq (Nat.le_of_ble_eq_true rfl) (am_ok_int _) am_uu ?_
  refine aw_aload_n (npc := 92) rfl dX0_becomes_91 rfl ?_
  refine aw_aload_n (npc := 93) rfl dX0_becomes_92 rfl ?_
  refine aw_get (npc := 96) dX0_becomes_93 rfl kf_X0_40 (am_ne (by omega) (am_ne (by omega) (am_ne (by omega) (am_ne (by omega) E.1)))) rfl ?_
  refine aw_put (npc := 99) dX0_becomes_96 rfl kf_X0_40 am_eq (Nat.le_of_ble_eq_true rfl) (am_ok_int _) am_uu ?_
  refine aw_aload_n (npc := 100) rfl dX0_becomes_99 rfl ?_
  refine aw_get (npc := 103) dX0_becomes_100 rfl kf_X0_43 (am_ne (by omega) (am_ne (by omega) (am_ne (by omega) (am_ne (by omega) E.1)))) rfl ?_
  refine aw_iconst (npc := 104) (v := 0) (by decide) dX0_becomes_103 rfl ?_
  refine aw_aload_n (npc := 105) rfl dX0_becomes_104 rfl ?_
  refine aw_get (npc := 108) dX0_becomes_105 rfl kf_X0_43 am_eq rfl ?_
  refine aw_iconst (npc := 109) (v := 0) (by decide) dX0_becomes_108 rfl ?_
  refine aw_bipush (npc := 111) (v := 8) (by decide) dX0_becomes_109 rfl ?_
  refine aw_copyi (npc := 114) (sp := 0) (dp := 0) (mm := 8) dX0_becomes_111 rfl kac_X0_73 kac_x (am_ne (by omega) (am_ne (by omega) (am_ne (by omega) (am_ne (by omega) E.2.2.2.2.1)))) (am_ne (by omega) (am_ne (by omega) (am_ne (by omega) (am_ne (by omega) F.2.2.2.2.1)))) ⟨by decide, by decide⟩ ⟨by decide, by decide⟩ ⟨by decide, by decide⟩ (by rw [tl_len]; omega) (by rw [tl_len]; omega) (Nat.le_of_ble_eq_true rfl) (congrArg (fun l : List Int32 => am_up _ _ (.inl (0, l))) am_cpy_all) ?_
  refine aw_aload_n (npc := 115) rfl dX0_becomes_114 rfl ?_
  refine aw_get (npc := 118) dX0_becomes_115 rfl kf_X0_46 (am_ne (by omega) (am_ne (by omega) (am_ne (by omega) (am_ne (by omega) (am_ne (by omega) E.1))))) rfl ?_
  refine aw_iconst (npc := 119) (v := 0) (by decide) dX0_becomes_118 rfl ?_
  refine aw_aload_n (npc := 120) rfl dX0_becomes_119 rfl ?_
  refine aw_get (npc := 123) dX0_becomes_120 rfl kf_X0_46 (am_ne (by omega) am_eq) rfl ?_
  refine aw_iconst (npc := 124) (v := 0) (by decide) dX0_becomes_123 rfl ?_
  refine aw_bipush (npc := 126) (v := 8) (by decide) dX0_becomes_124 rfl ?_
  refine aw_copyi (npc := 129) (sp := 0) (dp := 0) (mm := 8) dX0_becomes_126 rfl kac_X0_73 kac_x (am_ne (by omega) (am_ne (by omega) (am_ne (by omega) (am_ne (by omega) (am_ne (by omega) E.2.2.2.2.2.1))))) (am_ne (by omega) (am_ne (by omega) (am_ne (by omega) (am_ne (by omega) (am_ne (by omega) F.2.2.2.2.2.1))))) ⟨by decide, by decide⟩ ⟨by decide, by decide⟩ ⟨by decide, by decide⟩ (by rw [tl_len]; omega) (by rw [tl_len]; omega) (Nat.le_of_ble_eq_true rfl) (congrArg (fun l : List Int32 => am_up _ _ (.inl (0, l))) am_cpy_all) ?_
  refine aw_aload_n (npc := 130) rfl dX0_becomes_129 rfl ?_
  refine aw_get (npc := 133) dX0_becomes_130 rfl kf_X0_49 (am_ne (by omega) (am_ne (by omega) (am_ne (by omega) (am_ne (by omega) (am_ne (by omega) (am_ne (by omega) E.1)))))) rfl ?_
  refine aw_iconst (npc := 134) (v := 0) (by decide) dX0_becomes_133 rfl ?_
  refine aw_aload_n (npc := 135) rfl dX0_becomes_134 rfl ?_
  refine aw_get (npc := 138) dX0_becomes_135 rfl kf_X0_49 (am_ne (by omega) (am_ne (by omega) am_eq)) rfl ?_
  refine aw_iconst (npc := 139) (v := 0) (by decide) dX0_becomes_138 rfl ?_
  refine aw_bipush (npc := 141) (v := 8) (by decide) dX0_becomes_139 rfl ?_
  refine aw_copyi (npc := 144) (sp := 0) (dp := 0) (mm := 8) dX0_becomes_141 rfl kac_X0_73 kac_x (am_ne (by omega) (am_ne (by omega) (am_ne (by omega) (am_ne (by omega) (am_ne (by omega) (am_ne (by omega) E.2.2.2.2.2.2.1)))))) (am_ne (by omega) (am_ne (by omega) (am_ne (by omega) (am_ne (by omega) (am_ne (by omega) (am_ne (by omega) F.2.2.2.2.2.2.1)))))) ⟨by decide, by decide⟩ ⟨by decide, by decide⟩ ⟨by decide, by decide⟩ (by rw [tl_len]; omega) (by rw [tl_len]; omega) (Nat.le_of_ble_eq_true rfl) (congrArg (fun l : List Int32 => am_up _ _ (.inl (0, l))) am_cpy_all) ?_
  refine aw_aload_n (npc := 145) rfl dX0_becomes_144 rfl ?_
  refine aw_get (npc := 148) dX0_becomes_145 rfl kf_X0_52 (am_ne (by omega) (am_ne (by omega) (am_ne (by omega) (am_ne (by omega) (am_ne (by omega) (am_ne (by omega) (am_ne (by omega) E.1))))))) rfl ?_
  refine aw_iconst (npc := 149) (v := 0) (by decide) dX0_becomes_148 rfl ?_
  refine aw_aload_n (npc := 150) rfl dX0_becomes_149 rfl ?_
  refine aw_get (npc := 153) dX0_becomes_150 rfl kf_X0_52 (am_ne (by omega) (am_ne (by omega) (am_ne (by omega) am_eq))) rfl ?_
  refine aw_iconst (npc := 154) (v := 0) (by decide) dX0_becomes_153 rfl ?_
  refine aw_bipush (npc := 156) (v := 8) (by decide) dX0_becomes_154 rfl ?_
  refine aw_copyi (npc := 159) (sp := 0) (dp := 0) (mm := 8) dX0_becomes_156 rfl kac_X0_73 kac_x (am_ne (by omega) (am_ne (by omega) (am_ne (by omega) (am_ne (by omega) (am_ne (by omega) (am_ne (by omega) (am_ne (by omega) E.2.2.2.2.2.2.2.1))))))) (am_ne (by omega) (am_ne (by omega) (am_ne (by omega) (am_ne (by omega) (am_ne (by omega) (am_ne (by omega) (am_ne (by omega) F.2.2.2.2.2.2.2.1))))))) ⟨by decide, by decide⟩ ⟨by decide, by decide⟩ ⟨by decide, by decide⟩ (by rw [tl_len]; omega) (by rw [tl_len]; omega) (Nat.le_of_ble_eq_true rfl) (congrArg (fun l : List Int32 => am_up _ _ (.inl (0, l))) am_cpy_all) ?_
  refine aw_aload_n (npc := 160) rfl dX0_becomes_159 rfl ?_
  refine aw_get (npc := 163) dX0_becomes_160 rfl kf_X0_55 (am_ne (by omega) (am_ne (by omega) (am_ne (by omega) (am_ne (by omega) (am_ne (by omega) (am_ne (by omega) (am_ne (by omega) (am_ne (by omega) E.1)))))))) rfl ?_
  refine aw_iconst (npc := 164) (v := 0) (by decide) dX0_becomes_163 rfl ?_
  refine aw_aload_n (npc := 165) rfl dX0_becomes_164 rfl ?_
  refine aw_get (npc := 168) dX0_becomes_165 rfl kf_X0_55 (am_ne (by omega) (am_ne (by omega) (am_ne (by omega) (am_ne (by omega) am_eq)))) rfl ?_
  refine aw_iconst (npc := 169) (v := 0) (by decide) dX0_becomes_168 rfl ?_
  refine aw_bipush (npc := 171) (v := 8) (by decide) dX0_becomes_169 rfl ?_
  refine aw_copyi (npc := 174) (sp := 0) (dp := 0) (mm := 8) dX0_becomes_171 rfl kac_X0_73 kac_x (am_ne (by omega) (am_ne (by omega) (am_ne (by omega) (am_ne (by omega) (am_ne (by omega) (am_ne (by omega) (am_ne (by omega) (am_ne (by omega) E.2.2.2.2.2.2.2.2.1)))))))) (am_ne (by omega) (am_ne (by omega) (am_ne (by omega) (am_ne (by omega) (am_ne (by omega) (am_ne (by omega) (am_ne (by omega) (am_ne (by omega) F.2.2.2.2.2.2.2.2.1)))))))) ⟨by decide, by decide⟩ ⟨by decide, by decide⟩ ⟨by decide, by decide⟩ (by rw [tl_len]; omega) (by rw [tl_len]; omega) (Nat.le_of_ble_eq_true rfl) (congrArg (fun l : List Int32 => am_up _ _ (.inl (0, l))) am_cpy_all) ?_
  refine aw_iconst (npc := 175) (v := 0) (by decide) dX0_becomes_174 rfl ?_
  refine aw_istore_n (npc := 176) (L' := [some (.ref b), some (.ref e), some (.int 0)]) dX0_becomes_175 rfl (by decide) rfl rfl ?_
  refine aw_iload_n (npc := 177) rfl dX0_becomes_176 rfl ?_
  refine aw_bipush (npc := 179) (v := 14) (by decide) dX0_becomes_177 rfl ?_
  refine aw_icmp_ge (npc := 182) (tgt := 200) dX0_becomes_179 rfl (by decide) (fun hc => absurd hc (by decide)) (fun _ => ?_)
  refine aw_aload_n (npc := 183) rfl dX0_becomes_182 rfl ?_
  refine aw_get (npc := 186) dX0_becomes_183 rfl kf_X0_60 (am_ne (by omega) (am_ne (by omega) (am_ne (by omega) (am_ne (by omega) (am_ne (by omega) am_eq))))) rfl ?_
  refine aw_iload_n (npc := 187) rfl dX0_becomes_186 rfl ?_
  refine aw_aload_n (npc := 188) rfl dX0_becomes_187 rfl ?_
  refine aw_get (npc := 191) dX0_becomes_188 rfl kf_X0_60 (am_ne (by omega) (am_ne (by omega) (am_ne (by omega) (am_ne (by omega) (am_ne (by omega) (am_ne (by omega) (am_ne (by omega) (am_ne (by omega) (am_ne (by omega) E.1))))))))) rfl ?_
  refine aw_iload_n (npc := 192) rfl dX0_becomes_191 rfl ?_
  refine aw_aald (npc := 193) (j := 0) dX0_becomes_192 rfl (by decide) (am_ne (by omega) (am_ne (by omega) (am_ne (by omega) (am_ne (by omega) (am_ne (by omega) (am_ne (by omega) (am_ne (by omega) (am_ne (by omega) (am_ne (by omega) E.2.2.2.2.2.2.2.2.2.1))))))))) ⟨by decide, by decide⟩ rfl ?_
  refine aw_aastO (npc := 194) (j := 0) dX0_becomes_193 rfl (am_ne (by omega) (am_ne (by omega) (am_ne (by omega) (am_ne (by omega) (am_ne (by omega) (am_ne (by omega) (am_ne (by omega) (am_ne (by omega) (am_ne (by omega) F.2.2.2.2.2.2.2.2.2.1))))))))) ((hok 0 _ rfl).imp id (fun ⟨a9, ha9, e9⟩ => by obtain ⟨hb9, -⟩ := G a9 ha9; exact ⟨_, _, e9, (am_ne (by omega) (am_ne (by omega) (am_ne (by omega) (am_ne (by omega) (am_ne (by omega) (am_ne (by omega) (am_ne (by omega) (am_ne (by omega) (am_ne (by omega) hb9)))))))))⟩)) ⟨by decide, by decide⟩ (Nat.le_of_ble_eq_true rfl) rfl ?_
  refine aw_iinc (npc := 197) (v := 1) (L' := [some (.ref b), some (.ref e), some (.int 1)]) dX0_becomes_194 rfl rfl (by decide) (by decide) rfl rfl ?_
  refine aw_goto (npc := 176) dX0_becomes_197 (by decide) ?_
  refine aw_iload_n (npc := 177) rfl dX0_becomes_176 rfl ?_
  refine aw_bipush (npc := 179) (v := 14) (by decide) dX0_becomes_177 rfl ?_
  refine aw_icmp_ge (npc := 182) (tgt := 200) dX0_becomes_179 rfl (by decide) (fun hc => absurd hc (by decide)) (fun _ => ?_)
  refine aw_aload_n (npc := 183) rfl dX0_becomes_182 rfl ?_
  refine aw_get (npc := 186) dX0_becomes_183 rfl kf_X0_60 (am_ne (by omega) (am_ne (by omega) (am_ne (by omega) (am_ne (by omega) (am_ne (by omega) (am_ne (by omega) am_eq)))))) rfl ?_
  refine aw_iload_n (npc := 187) rfl dX0_becomes_186 rfl ?_
  refine aw_aload_n (npc := 188) rfl dX0_becomes_187 rfl ?_
  refine aw_get (npc := 191) dX0_becomes_188 rfl kf_X0_60 (am_ne (by omega) (am_ne (by omega) (am_ne (by omega) (am_ne (by omega) (am_ne (by omega) (am_ne (by omega) (am_ne (by omega) (am_ne (by omega) (am_ne (by omega) (am_ne (by omega) E.1)))))))))) rfl ?_
  refine aw_iload_n (npc := 192) rfl dX0_becomes_191 rfl ?_
  refine aw_aald (npc := 193) (j := 1) dX0_becomes_192 rfl (by decide) (am_ne (by omega) (am_ne (by omega) (am_ne (by omega) (am_ne (by omega) (am_ne (by omega) (am_ne (by omega) (am_ne (by omega) (am_ne (by omega) (am_ne (by omega) (am_ne (by omega) E.2.2.2.2.2.2.2.2.2.1)))))))))) ⟨by decide, by decide⟩ rfl ?_
  refine aw_aastO (npc := 194) (j := 1) dX0_becomes_193 rfl am_eq ((hok 1 _ rfl).imp id (fun ⟨a9, ha9, e9⟩ => by obtain ⟨hb9, -⟩ := G a9 ha9; exact ⟨_, _, e9, (am_ne (by omega) (am_ne (by omega) (am_ne (by omega) (am_ne (by omega) (am_ne (by omega) (am_ne (by omega) (am_ne (by omega) (am_ne (by omega) (am_ne (by omega) (am_ne (by omega) hb9))))))))))⟩)) ⟨by decide, by decide⟩ (Nat.le_of_ble_eq_true rfl) am_uu ?_
  refine aw_iinc (npc := 197) (v := 2) (L' := [some (.ref b), some (.ref e), some (.int 2)]) dX0_becomes_194 rfl rfl (by decide) (by decide) rfl rfl ?_
  refine aw_goto (npc := 176) dX0_becomes_197 (by decide) ?_
  refine aw_iload_n (npc := 177) rfl dX0_becomes_176 rfl ?_
  refine aw_bipush (npc := 179) (v := 14) (by decide) dX0_becomes_177 rfl ?_
  refine aw_icmp_ge (npc := 182) (tgt := 200) dX0_becomes_179 rfl (by decide) (fun hc => absurd hc (by decide)) (fun _ => ?_)
  refine aw_aload_n (npc := 183) rfl dX0_becomes_182 rfl ?_
  refine aw_get (npc := 186) dX0_becomes_183 rfl kf_X0_60 (am_ne (by omega) (am_ne (by omega) (am_ne (by omega) (am_ne (by omega) (am_ne (by omega) (am_ne (by omega) am_eq)))))) rfl ?_
  refine aw_iload_n (npc := 187) rfl dX0_becomes_186 rfl ?_
  refine aw_aload_n (npc := 188) rfl dX0_becomes_187 rfl ?_
  refine aw_get (npc := 191) dX0_becomes_188 rfl kf_X0_60 (am_ne (by omega) (am_ne (by omega) (am_ne (by omega) (am_ne (by omega) (am_ne (by omega) (am_ne (by omega) (am_ne (by omega) (am_ne (by omega) (am_ne (by omega) (am_ne (by omega) E.1)))))))))) rfl ?_
  refine aw_iload_n (npc := 192) rfl dX0_becomes_191 rfl ?_
  refine aw_aald (npc := 193) (j := 2) dX0_becomes_192 rfl (by decide) (am_ne (by omega) (am_ne (by omega) (am_ne (by omega) (am_ne (by omega) (am_ne (by omega) (am_ne (by omega) (am_ne (by omega) (am_ne (by omega) (am_ne (by omega) (am_ne (by omega) E.2.2.2.2.2.2.2.2.2.1)))))))))) ⟨by decide, by decide⟩ rfl ?_
  refine aw_aastO (npc := 194) (j := 2) dX0_becomes_193 rfl am_eq ((hok 2 _ rfl).imp id (fun ⟨a9, ha9, e9⟩ => by obtain ⟨hb9, -⟩ := G a9 ha9; exact ⟨_, _, e9, (am_ne (by omega) (am_ne (by omega) (am_ne (by omega) (am_ne (by omega) (am_ne (by omega) (am_ne (by omega) (am_ne (by omega) (am_ne (by omega) (am_ne (by omega) (am_ne (by omega) hb9))))))))))⟩)) ⟨by decide, by decide⟩ (Nat.le_of_ble_eq_true rfl) am_uu ?_
  refine aw_iinc (npc := 197) (v := 3) (L' := [some (.ref b), some (.ref e), some (.int 3)]) dX0_becomes_194 rfl rfl (by decide) (by decide) rfl rfl ?_
  refine aw_goto (npc := 176) dX0_becomes_197 (by decide) ?_
  refine aw_iload_n (npc := 177) rfl dX0_becomes_176 rfl ?_
  refine aw_bipush (npc := 179) (v := 14) (by decide) dX0_becomes_177 rfl ?_
  refine aw_icmp_ge (npc := 182) (tgt := 200) dX0_becomes_179 rfl (by decide) (fun hc => absurd hc (by decide)) (fun _ => ?_)
  refine aw_aload_n (npc := 183) rfl dX0_becomes_182 rfl ?_
  refine aw_get (npc := 186) dX0_becomes_183 rfl kf_X0_60 (am_ne (by omega) (am_ne (by omega) (am_ne (by omega) (am_ne (by omega) (am_ne (by omega) (am_ne (by omega) am_eq)))))) rfl ?_
  refine aw_iload_n (npc := 187) rfl dX0_becomes_186 rfl ?_
  refine aw_aload_n (npc := 188) rfl dX0_becomes_187 rfl ?_
  refine aw_get (npc := 191) dX0_becomes_188 rfl kf_X0_60 (am_ne (by omega) (am_ne (by omega) (am_ne (by omega) (am_ne (by omega) (am_ne (by omega) (am_ne (by omega) (am_ne (by omega) (am_ne (by omega) (am_ne (by omega) (am_ne (by omega) E.1)))))))))) rfl ?_
  refine aw_iload_n (npc := 192) rfl dX0_becomes_191 rfl ?_
  refine aw_aald (npc := 193) (j := 3) dX0_becomes_192 rfl (by decide) (am_ne (by omega) (am_ne (by omega) (am_ne (by omega) (am_ne (by omega) (am_ne (by omega) (am_ne (by omega) (am_ne (by omega) (am_ne (by omega) (am_ne (by omega) (am_ne (by omega) E.2.2.2.2.2.2.2.2.2.1)))))))))) ⟨by decide, by decide⟩ rfl ?_
  refine aw_aastO (npc := 194) (j := 3) dX0_becomes_193 rfl am_eq ((hok 3 _ rfl).imp id (fun ⟨a9, ha9, e9⟩ => by obtain ⟨hb9, -⟩ := G a9 ha9; exact ⟨_, _, e9, (am_ne (by omega) (am_ne (by omega) (am_ne (by omega) (am_ne (by omega) (am_ne (by omega) (am_ne (by omega) (am_ne (by omega) (am_ne (by omega) (am_ne (by omega) (am_ne (by omega) hb9))))))))))⟩)) ⟨by decide, by decide⟩ (Nat.le_of_ble_eq_true rfl) am_uu ?_
  refine aw_iinc (npc := 197) (v := 4) (L' := [some (.ref b), some (.ref e), some (.int 4)]) dX0_becomes_194 rfl rfl (by decide) (by decide) rfl rfl ?_
  refine aw_goto (npc := 176) dX0_becomes_197 (by decide) ?_
  refine aw_iload_n (npc := 177) rfl dX0_becomes_176 rfl ?_
  refine aw_bipush (npc := 179) (v := 14) (by decide) dX0_becomes_177 rfl ?_
  refine aw_icmp_ge (npc := 182) (tgt := 200) dX0_becomes_179 rfl (by decide) (fun hc => absurd hc (by decide)) (fun _ => ?_)
  refine aw_aload_n (npc := 183) rfl dX0_becomes_182 rfl ?_
  refine aw_get (npc := 186) dX0_becomes_183 rfl kf_X0_60 (am_ne (by omega) (am_ne (by omega) (am_ne (by omega) (am_ne (by omega) (am_ne (by omega) (am_ne (by omega) am_eq)))))) rfl ?_
  refine aw_iload_n (npc := 187) rfl dX0_becomes_186 rfl ?_
  refine aw_aload_n (npc := 188) rfl dX0_becomes_187 rfl ?_
  refine aw_get (npc := 191) dX0_becomes_188 rfl kf_X0_60 (am_ne (by omega) (am_ne (by omega) (am_ne (by omega) (am_ne (by omega) (am_ne (by omega) (am_ne (by omega) (am_ne (by omega) (am_ne (by omega) (am_ne (by omega) (am_ne (by omega) E.1)))))))))) rfl ?_
  refine aw_iload_n (npc := 192) rfl dX0_becomes_191 rfl ?_
  refine aw_aald (npc := 193) (j := 4) dX0_becomes_192 rfl (by decide) (am_ne (by omega) (am_ne (by omega) (am_ne (by omega) (am_ne (by omega) (am_ne (by omega) (am_ne (by omega) (am_ne (by omega) (am_ne (by omega) (am_ne (by omega) (am_ne (by omega) E.2.2.2.2.2.2.2.2.2.1)))))))))) ⟨by decide, by decide⟩ rfl ?_
  refine aw_aastO (npc := 194) (j := 4) dX0_becomes_193 rfl am_eq ((hok 4 _ rfl).imp id (fun ⟨a9, ha9, e9⟩ => by obtain ⟨hb9, -⟩ := G a9 ha9; exact ⟨_, _, e9, (am_ne (by omega) (am_ne (by omega) (am_ne (by omega) (am_ne (by omega) (am_ne (by omega) (am_ne (by omega) (am_ne (by omega) (am_ne (by omega) (am_ne (by omega) (am_ne (by omega) hb9))))))))))⟩)) ⟨by decide, by decide⟩ (Nat.le_of_ble_eq_true rfl) am_uu ?_
  refine aw_iinc (npc := 197) (v := 5) (L' := [some (.ref b), some (.ref e), some (.int 5)]) dX0_becomes_194 rfl rfl (by decide) (by decide) rfl rfl ?_
  refine aw_goto (npc := 176) dX0_becomes_197 (by decide) ?_
  refine aw_iload_n (npc := 177) rfl dX0_becomes_176 rfl ?_
  refine aw_bipush (npc := 179) (v := 14) (by decide) dX0_becomes_177 rfl ?_
  refine aw_icmp_ge (npc := 182) (tgt := 200) dX0_becomes_179 rfl (by decide) (fun hc => absurd hc (by decide)) (fun _ => ?_)
  refine aw_aload_n (npc := 183) rfl dX0_becomes_182 rfl ?_
  refine aw_get (npc := 186) dX0_becomes_183 rfl kf_X0_60 (am_ne (by omega) (am_ne (by omega) (am_ne (by omega) (am_ne (by omega) (am_ne (by omega) (am_ne (by omega) am_eq)))))) rfl ?_
  refine aw_iload_n (npc := 187) rfl dX0_becomes_186 rfl ?_
  refine aw_aload_n (npc := 188) rfl dX0_becomes_187 rfl ?_
  refine aw_get (npc := 191) dX0_becomes_188 rfl kf_X0_60 (am_ne (by omega) (am_ne (by omega) (am_ne (by omega) (am_ne (by omega) (am_ne (by omega) (am_ne (by omega) (am_ne (by omega) (am_ne (by omega) (am_ne (by omega) (am_ne (by omega) E.1)))))))))) rfl ?_
  refine aw_iload_n (npc := 192) rfl dX0_becomes_191 rfl ?_
  refine aw_aald (npc := 193) (j := 5) dX0_becomes_192 rfl (by decide) (am_ne (by omega) (am_ne (by omega) (am_ne (by omega) (am_ne (by omega) (am_ne (by omega) (am_ne (by omega) (am_ne (by omega) (am_ne (by omega) (am_ne (by omega) (am_ne (by omega) E.2.2.2.2.2.2.2.2.2.1)))))))))) ⟨by decide, by decide⟩ rfl ?_
  refine aw_aastO (npc := 194) (j := 5) dX0_becomes_193 rfl am_eq ((hok 5 _ rfl).imp id (fun ⟨a9, ha9, e9⟩ => by obtain ⟨hb9, -⟩ := G a9 ha9; exact ⟨_, _, e9, (am_ne (by omega) (am_ne (by omega) (am_ne (by omega) (am_ne (by omega) (am_ne (by omega) (am_ne (by omega) (am_ne (by omega) (am_ne (by omega) (am_ne (by omega) (am_ne (by omega) hb9))))))))))⟩)) ⟨by decide, by decide⟩ (Nat.le_of_ble_eq_true rfl) am_uu ?_
  refine aw_iinc (npc := 197) (v := 6) (L' := [some (.ref b), some (.ref e), some (.int 6)]) dX0_becomes_194 rfl rfl (by decide) (by decide) rfl rfl ?_
  refine aw_goto (npc := 176) dX0_becomes_197 (by decide) ?_
  refine aw_iload_n (npc := 177) rfl dX0_becomes_176 rfl ?_
  refine aw_bipush (npc := 179) (v := 14) (by decide) dX0_becomes_177 rfl ?_
  refine aw_icmp_ge (npc := 182) (tgt := 200) dX0_becomes_179 rfl (by decide) (fun hc => absurd hc (by decide)) (fun _ => ?_)
  refine aw_aload_n (npc := 183) rfl dX0_becomes_182 rfl ?_
  refine aw_get (npc := 186) dX0_becomes_183 rfl kf_X0_60 (am_ne (by omega) (am_ne (by omega) (am_ne (by omega) (am_ne (by omega) (am_ne (by omega) (am_ne (by omega) am_eq)))))) rfl ?_
  refine aw_iload_n (npc := 187) rfl dX0_becomes_186 rfl ?_
  refine aw_aload_n (npc := 188) rfl dX0_becomes_187 rfl ?_
  refine aw_get (npc := 191) dX0_becomes_188 rfl kf_X0_60 (am_ne (by omega) (am_ne (by omega) (am_ne (by omega) (am_ne (by omega) (am_ne (by omega) (am_ne (by omega) (am_ne (by omega) (am_ne (by omega) (am_ne (by omega) (am_ne (by omega) E.1)))))))))) rfl ?_
  refine aw_iload_n (npc := 192) rfl dX0_becomes_191 rfl ?_
  refine aw_aald (npc := 193) (j := 6) dX0_becomes_192 rfl (by decide) (am_ne (by omega) (am_ne (by omega) (am_ne (by omega) (am_ne (by omega) (am_ne (by omega) (am_ne (by omega) (am_ne (by omega) (am_ne (by omega) (am_ne (by omega) (am_ne (by omega) E.2.2.2.2.2.2.2.2.2.1)))))))))) ⟨by decide, by decide⟩ rfl ?_
  refine aw_aastO (npc := 194) (j := 6) dX0_becomes_193 rfl am_eq ((hok 6 _ rfl).imp id (fun ⟨a9, ha9, e9⟩ => by obtain ⟨hb9, -⟩ := G a9 ha9; exact ⟨_, _, e9, (am_ne (by omega) (am_ne (by omega) (am_ne (by omega) (am_ne (by omega) (am_ne (by omega) (am_ne (by omega) (am_ne (by omega) (am_ne (by omega) (am_ne (by omega) (am_ne (by omega) hb9))))))))))⟩)) ⟨by decide, by decide⟩ (Nat.le_of_ble_eq_true rfl) am_uu ?_
  refine aw_iinc (npc := 197) (v := 7) (L' := [some (.ref b), some (.ref e), some (.int 7)]) dX0_becomes_194 rfl rfl (by decide) (by decide) rfl rfl ?_
  refine aw_goto (npc := 176) dX0_becomes_197 (by decide) ?_
  refine aw_iload_n (npc := 177) rfl dX0_becomes_176 rfl ?_
  refine aw_bipush (npc := 179) (v := 14) (by decide) dX0_becomes_177 rfl ?_
  refine aw_icmp_ge (npc := 182) (tgt := 200) dX0_becomes_179 rfl (by decide) (fun hc => absurd hc (by decide)) (fun _ => ?_)
  refine aw_aload_n (npc := 183) rfl dX0_becomes_182 rfl ?_
  refine aw_get (npc := 186) dX0_becomes_183 rfl kf_X0_60 (am_ne (by omega) (am_ne (by omega) (am_ne (by omega) (am_ne (by omega) (am_ne (by omega) (am_ne (by omega) am_eq)))))) rfl ?_
  refine aw_iload_n (npc := 187) rfl dX0_becomes_186 rfl ?_
  refine aw_aload_n (npc := 188) rfl dX0_becomes_187 rfl ?_
  refine aw_get (npc := 191) dX0_becomes_188 rfl kf_X0_60 (am_ne (by omega) (am_ne (by omega) (am_ne (by omega) (am_ne (by omega) (am_ne (by omega) (am_ne (by omega) (am_ne (by omega) (am_ne (by omega) (am_ne (by omega) (am_ne (by omega) E.1)))))))))) rfl ?_
  refine aw_iload_n (npc := 192) rfl dX0_becomes_191 rfl ?_
  refine aw_aald (npc := 193) (j := 7) dX0_becomes_192 rfl (by decide) (am_ne (by omega) (am_ne (by omega) (am_ne (by omega) (am_ne (by omega) (am_ne (by omega) (am_ne (by omega) (am_ne (by omega) (am_ne (by omega) (am_ne (by omega) (am_ne (by omega) E.2.2.2.2.2.2.2.2.2.1)))))))))) ⟨by decide, by decide⟩ rfl ?_
  refine aw_aastO (npc := 194) (j := 7) dX0_becomes_193 rfl am_eq ((hok 7 _ rfl).imp id (fun ⟨a9, ha9, e9⟩ => by obtain ⟨hb9, -⟩ := G a9 ha9; exact ⟨_, _, e9, (am_ne (by omega) (am_ne (by omega) (am_ne (by omega) (am_ne (by omega) (am_ne (by omega) (am_ne (by omega) (am_ne (by omega) (am_ne (by omega) (am_ne (by omega) (am_ne (by omega) hb9))))))))))⟩)) ⟨by decide, by decide⟩ (Nat.le_of_ble_eq_true rfl) am_uu ?_
  refine aw_iinc (npc := 197) (v := 8) (L' := [some (.ref b), some (.ref e), some (.int 8)]) dX0_becomes_194 rfl rfl (by decide) (by decide) rfl rfl ?_
  refine aw_goto (npc := 176) dX0_becomes_197 (by decide) ?_
  refine aw_iload_n (npc := 177) rfl dX0_becomes_176 rfl ?_
  refine aw_bipush (npc := 179) (v := 14) (by decide) dX0_becomes_177 rfl ?_
  refine aw_icmp_ge (npc := 182) (tgt := 200) dX0_becomes_179 rfl (by decide) (fun hc => absurd hc (by decide)) (fun _ => ?_)
  refine aw_aload_n (npc := 183) rfl dX0_becomes_182 rfl ?_
  refine aw_get (npc := 186) dX0_becomes_183 rfl kf_X0_60 (am_ne (by omega) (am_ne (by omega) (am_ne (by omega) (am_ne (by omega) (am_ne (by omega) (am_ne (by omega) am_eq)))))) rfl ?_
  refine aw_iload_n (npc := 187) rfl dX0_becomes_186 rfl ?_
  refine aw_aload_n (npc := 188) rfl dX0_becomes_187 rfl ?_
  refine aw_get (npc := 191) dX0_becomes_188 rfl kf_X0_60 (am_ne (by omega) (am_ne (by omega) (am_ne (by omega) (am_ne (by omega) (am_ne (by omega) (am_ne (by omega) (am_ne (by omega) (am_ne (by omega) (am_ne (by omega) (am_ne (by omega) E.1)))))))))) rfl ?_
  refine aw_iload_n (npc := 192) rfl dX0_becomes_191 rfl ?_
  refine aw_aald (npc := 193) (j := 8) dX0_becomes_192 rfl (by decide) (am_ne (by omega) (am_ne (by omega) (am_ne (by omega) (am_ne (by omega) (am_ne (by omega) (am_ne (by omega) (am_ne (by omega) (am_ne (by omega) (am_ne (by omega) (am_ne (by omega) E.2.2.2.2.2.2.2.2.2.1)))))))))) ⟨by decide, by decide⟩ rfl ?_
  refine aw_aastO (npc := 194) (j := 8) dX0_becomes_193 rfl am_eq ((hok 8 _ rfl).imp id (fun ⟨a9, ha9, e9⟩ => by obtain ⟨hb9, -⟩ := G a9 ha9; exact ⟨_, _, e9, (am_ne (by omega) (am_ne (by omega) (am_ne (by omega) (am_ne (by omega) (am_ne (by omega) (am_ne (by omega) (am_ne (by omega) (am_ne (by omega) (am_ne (by omega) (am_ne (by omega) hb9))))))))))⟩)) ⟨by decide, by decide⟩ (Nat.le_of_ble_eq_true rfl) am_uu ?_
  refine aw_iinc (npc := 197) (v := 9) (L' := [some (.ref b), some (.ref e), some (.int 9)]) dX0_becomes_194 rfl rfl (by decide) (by decide) rfl rfl ?_
  refine aw_goto (npc := 176) dX0_becomes_197 (by decide) ?_
  refine aw_iload_n (npc := 177) rfl dX0_becomes_176 rfl ?_
  refine aw_bipush (npc := 179) (v := 14) (by decide) dX0_becomes_177 rfl ?_
  refine aw_icmp_ge (npc := 182) (tgt := 200) dX0_becomes_179 rfl (by decide) (fun hc => absurd hc (by decide)) (fun _ => ?_)
  refine aw_aload_n (npc := 183) rfl dX0_becomes_182 rfl ?_
  refine aw_get (npc := 186) dX0_becomes_183 rfl kf_X0_60 (am_ne (by omega) (am_ne (by omega) (am_ne (by omega) (am_ne (by omega) (am_ne (by omega) (am_ne (by omega) am_eq)))))) rfl ?_
  refine aw_iload_n (npc := 187) rfl dX0_becomes_186 rfl ?_
  refine aw_aload_n (npc := 188) rfl dX0_becomes_187 rfl ?_
  refine aw_get (npc := 191) dX0_becomes_188 rfl kf_X0_60 (am_ne (by omega) (am_ne (by omega) (am_ne (by omega) (am_ne (by omega) (am_ne (by omega) (am_ne (by omega) (am_ne (by omega) (am_ne (by omega) (am_ne (by omega) (am_ne (by omega) E.1)))))))))) rfl ?_
  refine aw_iload_n (npc := 192) rfl dX0_becomes_191 rfl ?_
  refine aw_aald (npc := 193) (j := 9) dX0_becomes_192 rfl (by decide) (am_ne (by omega) (am_ne (by omega) (am_ne (by omega) (am_ne (by omega) (am_ne (by omega) (am_ne (by omega) (am_ne (by omega) (am_ne (by omega) (am_ne (by omega) (am_ne (by omega) E.2.2.2.2.2.2.2.2.2.1)))))))))) ⟨by decide, by decide⟩ rfl ?_
  refine aw_aastO (npc := 194) (j := 9) dX0_becomes_193 rfl am_eq ((hok 9 _ rfl).imp id (fun ⟨a9, ha9, e9⟩ => by obtain ⟨hb9, -⟩ := G a9 ha9; exact ⟨_, _, e9, (am_ne (by omega) (am_ne (by omega) (am_ne (by omega) (am_ne (by omega) (am_ne (by omega) (am_ne (by omega) (am_ne (by omega) (am_ne (by omega) (am_ne (by omega) (am_ne (by omega) hb9))))))))))⟩)) ⟨by decide, by decide⟩ (Nat.le_of_ble_eq_true rfl) am_uu ?_
  refine aw_iinc (npc := 197) (v := 10) (L' := [some (.ref b), some (.ref e), some (.int 10)]) dX0_becomes_194 rfl rfl (by decide) (by decide) rfl rfl ?_
  refine aw_goto (npc := 176) dX0_becomes_197 (by decide) ?_
  refine aw_iload_n (npc := 177) rfl dX0_becomes_176 rfl ?_
  refine aw_bipush (npc := 179) (v := 14) (by decide) dX0_becomes_177 rfl ?_
  refine aw_icmp_ge (npc := 182) (tgt := 200) dX0_becomes_179 rfl (by decide) (fun hc => absurd hc (by decide)) (fun _ => ?_)
  refine aw_aload_n (npc := 183) rfl dX0_becomes_182 rfl ?_
  refine aw_get (npc := 186) dX0_becomes_183 rfl kf_X0_60 (am_ne (by omega) (am_ne (by omega) (am_ne (by omega) (am_ne (by omega) (am_ne (by omega) (am_ne (by omega) am_eq)))))) rfl ?_
  refine aw_iload_n (npc := 187) rfl dX0_becomes_186 rfl ?_
  refine aw_aload_n (npc := 188) rfl dX0_becomes_187 rfl ?_
  refine aw_get (npc := 191) dX0_becomes_188 rfl kf_X0_60 (am_ne (by omega) (am_ne (by omega) (am_ne (by omega) (am_ne (by omega) (am_ne (by omega) (am_ne (by omega) (am_ne (by omega) (am_ne (by omega) (am_ne (by omega) (am_ne (by omega) E.1)))))))))) rfl ?_
  refine aw_iload_n (npc := 192) rfl dX0_becomes_191 rfl ?_
  refine aw_aald (npc := 193) (j := 10) dX0_becomes_192 rfl (by decide) (am_ne (by omega) (am_ne (by omega) (am_ne (by omega) (am_ne (by omega) (am_ne (by omega) (am_ne (by omega) (am_ne (by omega) (am_ne (by omega) (am_ne (by omega) (am_ne (by omega) E.2.2.2.2.2.2.2.2.2.1)))))))))) ⟨by decide, by decide⟩ rfl ?_
  refine aw_aastO (npc := 194) (j := 10) dX0_becomes_193 rfl am_eq ((hok 10 _ rfl).imp id (fun ⟨a9, ha9, e9⟩ => by obtain ⟨hb9, -⟩ := G a9 ha9; exact ⟨_, _, e9, (am_ne (by omega) (am_ne (by omega) (am_ne (by omega) (am_ne (by omega) (am_ne (by omega) (am_ne (by omega) (am_ne (by omega) (am_ne (by omega) (am_ne (by omega) (am_ne (by omega) hb9))))))))))⟩)) ⟨by decide, by decide⟩ (Nat.le_of_ble_eq_true rfl) am_uu ?_
  refine aw_iinc (npc := 197) (v := 11) (L' := [some (.ref b), some (.ref e), some (.int 11)]) dX0_becomes_194 rfl rfl (by decide) (by decide) rfl rfl ?_
  refine aw_goto (npc := 176) dX0_becomes_197 (by decide) ?_
  refine aw_iload_n (npc := 177) rfl dX0_becomes_176 rfl ?_
  refine aw_bipush (npc := 179) (v := 14) (by decide) dX0_becomes_177 rfl ?_
  refine aw_icmp_ge (npc := 182) (tgt := 200) dX0_becomes_179 rfl (by decide) (fun hc => absurd hc (by decide)) (fun _ => ?_)
  refine aw_aload_n (npc := 183) rfl dX0_becomes_182 rfl ?_
  refine aw_get (npc := 186) dX0_becomes_183 rfl kf_X0_60 (am_ne (by omega) (am_ne (by omega) (am_ne (by omega) (am_ne (by omega) (am_ne (by omega) (am_ne (by omega) am_eq)))))) rfl ?_
  refine aw_iload_n (npc := 187) rfl dX0_becomes_186 rfl ?_
  refine aw_aload_n (npc := 188) rfl dX0_becomes_187 rfl ?_
  refine aw_get (npc := 191) dX0_becomes_188 rfl kf_X0_60 (am_ne (by omega) (am_ne (by omega) (am_ne (by omega) (am_ne (by omega) (am_ne (by omega) (am_ne (by omega) (am_ne (by omega) (am_ne (by omega) (am_ne (by omega) (am_ne (by omega) E.1)))))))))) rfl ?_
  refine aw_iload_n (npc := 192) rfl dX0_becomes_191 rfl ?_
  refine aw_aald (npc := 193) (j := 11) dX0_becomes_192 rfl (by decide) (am_ne (by omega) (am_ne (by omega) (am_ne (by omega) (am_ne (by omega) (am_ne (by omega) (am_ne (by omega) (am_ne (by omega) (am_ne (by omega) (am_ne (by omega) (am_ne (by omega) E.2.2.2.2.2.2.2.2.2.1)))))))))) ⟨by decide, by decide⟩ rfl ?_
  refine aw_aastO (npc := 194) (j := 11) dX0_becomes_193 rfl am_eq ((hok 11 _ rfl).imp id (fun ⟨a9, ha9, e9⟩ => by obtain ⟨hb9, -⟩ := G a9 ha9; exact ⟨_, _, e9, (am_ne (by omega) (am_ne (by omega) (am_ne (by omega) (am_ne (by omega) (am_ne (by omega) (am_ne (by omega) (am_ne (by omega) (am_ne (by omega) (am_ne (by omega) (am_ne (by omega) hb9))))))))))⟩)) ⟨by decide, by decide⟩ (Nat.le_of_ble_eq_true rfl) am_uu ?_
  refine aw_iinc (npc := 197) (v := 12) (L' := [some (.ref b), some (.ref e), some (.int 12)]) dX0_becomes_194 rfl rfl (by decide) (by decide) rfl rfl ?_
  refine aw_goto (npc := 176) dX0_becomes_197 (by decide) ?_
  refine aw_iload_n (npc := 177) rfl dX0_becomes_176 rfl ?_
  refine aw_bipush (npc := 179) (v := 14) (by decide) dX0_becomes_177 rfl ?_
  refine aw_icmp_ge (npc := 182) (tgt := 200) dX0_becomes_179 rfl (by decide) (fun hc => absurd hc (by decide)) (fun _ => ?_)
  refine aw_aload_n (npc := 183) rfl dX0_becomes_182 rfl ?_
  refine aw_get (npc := 186) dX0_becomes_183 rfl kf_X0_60 (am_ne (by omega) (am_ne (by omega) (am_ne (by omega) (am_ne (by omega) (am_ne (by omega) (am_ne (by omega) am_eq)))))) rfl ?_
  refine aw_iload_n (npc := 187) rfl dX0_becomes_186 rfl ?_
  refine aw_aload_n (npc := 188) rfl dX0_becomes_187 rfl ?_
  refine aw_get (npc := 191) dX0_becomes_188 rfl kf_X0_60 (am_ne (by omega) (am_ne (by omega) (am_ne (by omega) (am_ne (by omega) (am_ne (by omega) (am_ne (by omega) (am_ne (by omega) (am_ne (by omega) (am_ne (by omega) (am_ne (by omega) E.1)))))))))) rfl ?_
  refine aw_iload_n (npc := 192) rfl dX0_becomes_191 rfl ?_
  refine aw_aald (npc := 193) (j := 12) dX0_becomes_192 rfl (by decide) (am_ne (by omega) (am_ne (by omega) (am_ne (by omega) (am_ne (by omega) (am_ne (by omega) (am_ne (by omega) (am_ne (by omega) (am_ne (by omega) (am_ne (by omega) (am_ne (by omega) E.2.2.2.2.2.2.2.2.2.1)))))))))) ⟨by decide, by decide⟩ rfl ?_
  refine aw_aastO (npc := 194) (j := 12) dX0_becomes_193 rfl am_eq ((hok 12 _ rfl).imp id (fun ⟨a9, ha9, e9⟩ => by obtain ⟨hb9, -⟩ := G a9 ha9; exact ⟨_, _, e9, (am_ne (by omega) (am_ne (by omega) (am_ne (by omega) (am_ne (by omega) (am_ne (by omega) (am_ne (by omega) (am_ne (by omega) (am_ne (by omega) (am_ne (by omega) (am_ne (by omega) hb9))))))))))⟩)) ⟨by decide, by decide⟩ (Nat.le_of_ble_eq_true rfl) am_uu ?_
  refine aw_iinc (npc := 197) (v := 13) (L' := [some (.ref b), some (.ref e), some (.int 13)]) dX0_becomes_194 rfl rfl (by decide) (by decide) rfl rfl ?_
  refine aw_goto (npc := 176) dX0_becomes_197 (by decide) ?_
  refine aw_iload_n (npc := 177) rfl dX0_becomes_176 rfl ?_
  refine aw_bipush (npc := 179) (v := 14) (by decide) dX0_becomes_177 rfl ?_
  refine aw_icmp_ge (npc := 182) (tgt := 200) dX0_becomes_179 rfl (by decide) (fun hc => absurd hc (by decide)) (fun _ => ?_)
  refine aw_aload_n (npc := 183) rfl dX0_becomes_182 rfl ?_
  refine aw_get (npc := 186) dX0_becomes_183 rfl kf_X0_60 (am_ne (by omega) (am_ne (by omega) (am_ne (by omega) (am_ne (by omega) (am_ne (by omega) (am_ne (by omega) am_eq)))))) rfl ?_
  refine aw_iload_n (npc := 187) rfl dX0_becomes_186 rfl ?_
  refine aw_aload_n (npc := 188) rfl dX0_becomes_187 rfl ?_
  refine aw_get (npc := 191) dX0_becomes_188 rfl kf_X0_60 (am_ne (by omega) (am_ne (by omega) (am_ne (by omega) (am_ne (by omega) (am_ne (by omega) (am_ne (by omega) (am_ne (by omega) (am_ne (by omega) (am_ne (by omega) (am_ne (by omega) E.1)))))))))) rfl ?_
  refine aw_iload_n (npc := 192) rfl dX0_becomes_191 rfl ?_
  refine aw_aald (npc := 193) (j := 13) dX0_becomes_192 rfl (by decide) (am_ne (by omega) (am_ne (by omega) (am_ne (by omega) (am_ne (by omega) (am_ne (by omega) (am_ne (by omega) (am_ne (by omega) (am_ne (by omega) (am_ne (by omega) (am_ne (by omega) E.2.2.2.2.2.2.2.2.2.1)))))))))) ⟨by decide, by decide⟩ rfl ?_
  refine aw_aastO (npc := 194) (j := 13) dX0_becomes_193 rfl am_eq ((hok 13 _ rfl).imp id (fun ⟨a9, ha9, e9⟩ => by obtain ⟨hb9, -⟩ := G a9 ha9; exact ⟨_, _, e9, (am_ne (by omega) (am_ne (by omega) (am_ne (by omega) (am_ne (by omega) (am_ne (by omega) (am_ne (by omega) (am_ne (by omega) (am_ne (by omega) (am_ne (by omega) (am_ne (by omega) hb9))))))))))⟩)) ⟨by decide, by decide⟩ (Nat.le_of_ble_eq_true rfl) am_uu ?_
  refine aw_iinc (npc := 197) (v := 14) (L' := [some (.ref b), some (.ref e), some (.int 14)]) dX0_becomes_194 rfl rfl (by decide) (by decide) rfl rfl ?_
  refine aw_goto (npc := 176) dX0_becomes_197 (by decide) ?_
  refine aw_iload_n (npc := 177) rfl dX0_becomes_176 rfl ?_
  refine aw_bipush (npc := 179) (v := 14) (by decide) dX0_becomes_177 rfl ?_
  refine aw_icmp_ge (npc := 182) (tgt := 200) dX0_becomes_179 rfl (by decide) (fun _ => ?_) (fun hc => absurd (by decide) hc)
  refine aw_aload_n (npc := 201) rfl dX0_becomes_200 rfl ?_
  refine aw_aload_n (npc := 202) rfl dX0_becomes_201 rfl ?_
  refine aw_get (npc := 205) dX0_becomes_202 rfl kf_X0_64 (am_ne (by omega) (am_ne (by omega) (am_ne (by omega) (am_ne (by omega) (am_ne (by omega) (am_ne (by omega) (am_ne (by omega) (am_ne (by omega) (am_ne (by omega) (am_ne (by omega) E.1)))))))))) rfl ?_
  refine aw_put (npc := 208) dX0_becomes_205 rfl kf_X0_64 (am_ne (by omega) (am_ne (by omega) (am_ne (by omega) (am_ne (by omega) (am_ne (by omega) (am_ne (by omega) am_eq)))))) (Nat.le_of_ble_eq_true rfl) (am_ok_int _) rfl ?_
  refine aw_aload_n (npc := 209) rfl dX0_becomes_208 rfl ?_
  refine aw_get (npc := 212) dX0_becomes_209 rfl kf_X0_67 (am_ne (by omega) (am_ne (by omega) (am_ne (by omega) (am_ne (by omega) (am_ne (by omega) (am_ne (by omega) (am_ne (by omega) (am_ne (by omega) (am_ne (by omega) (am_ne (by omega) (am_ne (by omega) E.1))))))))))) rfl ?_
  refine aw_iconst (npc := 213) (v := 0) (by decide) dX0_becomes_212 rfl ?_
  refine aw_aload_n (npc := 214) rfl dX0_becomes_213 rfl ?_
  refine aw_get (npc := 217) dX0_becomes_214 rfl kf_X0_67 am_eq rfl ?_
  refine aw_iconst (npc := 218) (v := 0) (by decide) dX0_becomes_217 rfl ?_
  refine aw_iconst (npc := 219) (v := 3) (by decide) dX0_becomes_218 rfl ?_
  refine aw_copyi (npc := 222) (sp := 0) (dp := 0) (mm := 3) dX0_becomes_219 rfl kac_X0_73 kac_x (am_ne (by omega) (am_ne (by omega) (am_ne (by omega) (am_ne (by omega) (am_ne (by omega) (am_ne (by omega) (am_ne (by omega) (am_ne (by omega) (am_ne (by omega) (am_ne (by omega) (am_ne (by omega) E.2.2.2.2.2.2.2.2.2.2.1))))))))))) (am_ne (by omega) (am_ne (by omega) (am_ne (by omega) (am_ne (by omega) (am_ne (by omega) (am_ne (by omega) (am_ne (by omega) (am_ne (by omega) (am_ne (by omega) (am_ne (by omega) (am_ne (by omega) F.2.2.2.2.2.2.2.2.2.2.1))))))))))) ⟨by decide, by decide⟩ ⟨by decide, by decide⟩ ⟨by decide, by decide⟩ (by rw [tl_len]; omega) (by rw [tl_len]; omega) (Nat.le_of_ble_eq_true rfl) (congrArg (fun l : List Int32 => am_up _ _ (.inl (0, l))) am_cpy_all) ?_
  refine aw_vret rfl dX0_becomes_222 ?_
  exact hq _ ⟨(am_ne (by omega) am_eq), (am_ne (by omega) (am_ne (by omega) (am_ne (by omega) (am_ne (by omega) (am_ne (by omega) (am_ne (by omega) (am_ne (by omega) (am_ne (by omega) (am_ne (by omega) (am_ne (by omega) (am_ne (by omega) am_eq))))))))))), (am_ne (by omega) (am_ne (by omega) (am_ne (by omega) (am_ne (by omega) (am_ne (by omega) (am_ne (by omega) (am_ne (by omega) (am_ne (by omega) (am_ne (by omega) (am_ne (by omega) am_eq)))))))))), (am_ne (by omega) (am_ne (by omega) (am_ne (by omega) (am_ne (by omega) (am_ne (by omega) (am_ne (by omega) (am_ne (by omega) (am_ne (by omega) (am_ne (by omega) am_eq))))))))), (am_ne (by omega) (am_ne (by omega) (am_ne (by omega) (am_ne (by omega) (am_ne (by omega) (am_ne (by omega) (am_ne (by omega) am_eq))))))), (am_ne (by omega) (am_ne (by omega) (am_ne (by omega) (am_ne (by omega) (am_ne (by omega) (am_ne (by omega) am_eq)))))), (am_ne (by omega) (am_ne (by omega) (am_ne (by omega) (am_ne (by omega) (am_ne (by omega) am_eq))))), (am_ne (by omega) (am_ne (by omega) (am_ne (by omega) (am_ne (by omega) am_eq)))), (am_ne (by omega) (am_ne (by omega) (am_ne (by omega) am_eq))), (am_ne (by omega) (am_ne (by omega) am_eq)), am_eq, (am_ne (by omega) (am_ne (by omega) (am_ne (by omega) (am_ne (by omega) (am_ne (by omega) (am_ne (by omega) (am_ne (by omega) (am_ne (by omega) (am_ne (by omega) (am_ne (by omega) (am_ne (by omega) (am_ne (by omega) F.2.2.2.2.2.2.2.2.2.2.2))))))))))))⟩ (am_fbU (by omega) (am_fbU (by omega) (am_fbU (by omega) (am_fbU (by omega) (am_fbU (by omega) (am_fbU (by omega) (am_fbU (by omega) (am_fbU (by omega) (am_fbU (by omega) (am_fbU (by omega) (am_fbU (by omega) (am_fbU (by omega) am_fb0))))))))))))
