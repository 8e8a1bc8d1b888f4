theorem wi_c0_5 {x : Int32} (h : wi x 0 5) : x = 0 ∨ x = 1 ∨ x = 2 ∨ x = 3 ∨ x = 4 ∨ x = 5 := by
  have h1 : ¬ x.toInt < 0 := fun q => h.1 (Int32.lt_iff_toInt_lt.mpr (by simpa using q))
  have h2 : ¬ 5 < x.toInt := fun q => h.2 (Int32.lt_iff_toInt_lt.mpr (by simpa using q))
  rcases (show x.toInt = 0 ∨ x.toInt = 1 ∨ x.toInt = 2 ∨ x.toInt = 3 ∨ x.toInt = 4 ∨ x.toInt = 5 by omega) with q | q | q | q | q | q
  · exact Or.inl (Int32.toInt_inj.mp (by rw [q]; rfl))
  · exact Or.inr (Or.inl (Int32.toInt_inj.mp (by rw [q]; rfl)))
  · exact Or.inr (Or.inr (Or.inl (Int32.toInt_inj.mp (by rw [q]; rfl))))
  · exact Or.inr (Or.inr (Or.inr (Or.inl (Int32.toInt_inj.mp (by rw [q]; rfl)))))
  · exact Or.inr (Or.inr (Or.inr (Or.inr (Or.inl (Int32.toInt_inj.mp (by rw [q]; rfl))))))
  · exact Or.inr (Or.inr (Or.inr (Or.inr (Or.inr ((Int32.toInt_inj.mp (by rw [q]; rfl)))))))
theorem wi_c0_1 {x : Int32} (h : wi x 0 1) : x = 0 ∨ x = 1 := by
  have h1 : ¬ x.toInt < 0 := fun q => h.1 (Int32.lt_iff_toInt_lt.mpr (by simpa using q))
  have h2 : ¬ 1 < x.toInt := fun q => h.2 (Int32.lt_iff_toInt_lt.mpr (by simpa using q))
  rcases (show x.toInt = 0 ∨ x.toInt = 1 by omega) with q | q
  · exact Or.inl (Int32.toInt_inj.mp (by rw [q]; rfl))
  · exact Or.inr ((Int32.toInt_inj.mp (by rw [q]; rfl)))
theorem wi_c0_3 {x : Int32} (h : wi x 0 3) : x = 0 ∨ x = 1 ∨ x = 2 ∨ x = 3 := by
  have h1 : ¬ x.toInt < 0 := fun q => h.1 (Int32.lt_iff_toInt_lt.mpr (by simpa using q))
  have h2 : ¬ 3 < x.toInt := fun q => h.2 (Int32.lt_iff_toInt_lt.mpr (by simpa using q))
  rcases (show x.toInt = 0 ∨ x.toInt = 1 ∨ x.toInt = 2 ∨ x.toInt = 3 by omega) with q | q | q | q
  · exact Or.inl (Int32.toInt_inj.mp (by rw [q]; rfl))
  · exact Or.inr (Or.inl (Int32.toInt_inj.mp (by rw [q]; rfl)))
  · exact Or.inr (Or.inr (Or.inl (Int32.toInt_inj.mp (by rw [q]; rfl))))
  · exact Or.inr (Or.inr (Or.inr ((Int32.toInt_inj.mp (by rw [q]; rfl)))))
theorem wi_c0_4 {x : Int32} (h : wi x 0 4) : x = 0 ∨ x = 1 ∨ x = 2 ∨ x = 3 ∨ x = 4 := by
  have h1 : ¬ x.toInt < 0 := fun q => h.1 (Int32.lt_iff_toInt_lt.mpr (by simpa using q))
  have h2 : ¬ 4 < x.toInt := fun q => h.2 (Int32.lt_iff_toInt_lt.mpr (by simpa using q))
  rcases (show x.toInt = 0 ∨ x.toInt = 1 ∨ x.toInt = 2 ∨ x.toInt = 3 ∨ x.toInt = 4 by omega) with q | q | q | q | q
  · exact Or.inl (Int32.toInt_inj.mp (by rw [q]; rfl))
  · exact Or.inr (Or.inl (Int32.toInt_inj.mp (by rw [q]; rfl)))
  · exact Or.inr (Or.inr (Or.inl (Int32.toInt_inj.mp (by rw [q]; rfl))))
  · exact Or.inr (Or.inr (Or.inr (Or.inl (Int32.toInt_inj.mp (by rw [q]; rfl)))))
  · exact Or.inr (Or.inr (Or.inr (Or.inr ((Int32.toInt_inj.mp (by rw [q]; rfl))))))
theorem wi_c0_2 {x : Int32} (h : wi x 0 2) : x = 0 ∨ x = 1 ∨ x = 2 := by
  have h1 : ¬ x.toInt < 0 := fun q => h.1 (Int32.lt_iff_toInt_lt.mpr (by simpa using q))
  have h2 : ¬ 2 < x.toInt := fun q => h.2 (Int32.lt_iff_toInt_lt.mpr (by simpa using q))
  rcases (show x.toInt = 0 ∨ x.toInt = 1 ∨ x.toInt = 2 by omega) with q | q | q
  · exact Or.inl (Int32.toInt_inj.mp (by rw [q]; rfl))
  · exact Or.inr (Or.inl (Int32.toInt_inj.mp (by rw [q]; rfl)))
  · exact Or.inr (Or.inr ((Int32.toInt_inj.mp (by rw [q]; rfl))))
theorem wi_ge0 {x hi : Int32} (h : wi x 0 hi) : 0 ≤ x := Int32.not_lt.mp h.1
theorem wi_nI {x lo hi : Int32} {H : Nat} (hH : hi.toInt = H) (hl : 0 ≤ lo) (h : wi x lo hi) : ∃ N : Nat, N ≤ H ∧ x = nI N := by
  refine nI_of2 hH (fun q => h.1 ?_) (Int32.not_lt.mp h.2)
  have a := Int32.lt_iff_toInt_lt.mp q
  have b := Int32.le_iff_toInt_le.mp hl
  exact Int32.lt_iff_toInt_lt.mpr (by have z : (0 : Int32).toInt = 0 := rfl; omega)
theorem wi_idx {x y : Int32} {c : Nat} (hy : y = nI c) (hc : c < 1000) (h : wi x 0 (y - 1)) : ∃ t, t < c ∧ x = nI t := by
  subst hy
  have e : (nI c - 1 : Int32).toInt = (c : Int) - 1 := pk_sub_toInt (a := c) (b := 1) (by omega) (by omega)
  have h1 : ¬ x.toInt < 0 := fun q => h.1 (Int32.lt_iff_toInt_lt.mpr (by simpa using q))
  have h2 : ¬ ((c : Int) - 1) < x.toInt := fun q => h.2 (Int32.lt_iff_toInt_lt.mpr (by rw [e]; exact q))
  refine ⟨x.toInt.toNat, by omega, Int32.toInt_inj.mp ?_⟩
  rw [nI_toInt (by omega)]
  omega
theorem wi_idx' {x y : Int32} {c t : Nat} (hy : y = nI c) (hc : c < 1000) (ht : t < c) (hx : x = nI t) : wi x 0 (y - 1) := by
  subst hy; subst hx
  have e : (nI c - 1 : Int32).toInt = (c : Int) - 1 := pk_sub_toInt (a := c) (b := 1) (by omega) (by omega)
  refine ⟨nI_pos (by omega), fun q => ?_⟩
  have q1 := Int32.lt_iff_toInt_lt.mp q
  rw [e, nI_toInt (by omega)] at q1
  omega
abbrev TB : Type := Nat × (Nat → Int32) × (Nat → Int32) × (Nat → Nat) × (Nat → Nat → Int32) × (Nat → Nat)
def TT (tb : TB) (h : am_H) : Prop := ∀ a, a < tb.1 → h (92 + 3 * a) = some (.inr (5, [.int (tb.2.1 a), .int (tb.2.2.1 a), .ref (93 + 3 * a), .ref (94 + 3 * a)])) ∧ h (93 + 3 * a) = some (.inl (0, tl (tb.2.2.2.1 a) (tb.2.2.2.2.1 a))) ∧ (∃ sf, h (94 + 3 * a) = some (.inl (0, tl (tb.2.2.2.2.2 a) sf))) ∧ tb.2.2.2.1 a < 1000 ∧ tb.2.2.2.2.2 a < 1000 ∧ 0 < tb.2.2.2.2.2 a
theorem tt_frame {tb : TB} {h h' : am_H} (F : TT tb h) (hf : ∀ k, 92 ≤ k → h' k = h k) : TT tb h' := fun a ha => by
  obtain ⟨f0, f1, ⟨sf, f2⟩, f3⟩ := F a ha
  exact ⟨(hf _ (by omega)).trans f0, (hf _ (by omega)).trans f1, ⟨sf, (hf _ (by omega)).trans f2⟩, f3⟩
theorem tt_out {tb : TB} {h : am_H} {k : Nat} {c : am_AC} (hk : k < 92) (F : TT tb h) : TT tb (am_up h k c) := tt_frame F (fun j hj => am_nE (by omega))
theorem tt_stack {tb : TB} {h : am_H} {a : Nat} {sf : Nat → Int32} (F : TT tb h) : TT tb (am_up h (94 + 3 * a) (.inl (0, tl (tb.2.2.2.2.2 a) sf))) := fun q hq => by
  obtain ⟨f0, f1, ⟨sf2, f2⟩, f3⟩ := F q hq
  refine ⟨am_ne (by omega) f0, am_ne (by omega) f1, ?_, f3⟩
  by_cases e : q = a
  · subst e; exact ⟨sf, am_eq⟩
  · exact ⟨sf2, am_ne (by omega) f2⟩
def TXv (T c : Nat) (tx : List Value) : Prop := tx.length = 14 ∧ c ≤ 14 ∧ (∀ (t : Nat) (v : Value), tx[t]? = some v → v = .null ∨ ∃ a, a < T ∧ v = .ref (92 + 3 * a)) ∧ ∀ t : Nat, t < c → ∃ a, a < T ∧ tx[t]? = some (.ref (92 + 3 * a))
def hw (v m : Int32) : Int32 := if 0 ≤ v then (if m < v then m else v) else 0
set_option maxHeartbeats 4000000 in
set_option maxRecDepth 100000 in
theorem g_held {X : List Int32} {d rc rs n : Nat} {Q : am_Q} {h : am_H} {v m : Int32} (hq : Q (some (.int (hw v m))) n h) : AW X mX7_heldWithin (d + 1) rc rs 0 [some (.int v), some (.int m)] [] n h Q := by
  refine aw_iload_n (npc := 1) rfl dX7_heldWithin_0 rfl ?_
  refine aw_if_ge (npc := 4) (tgt := 8) dX7_heldWithin_1 rfl (by decide) (fun hc1 => ?_) (fun hc1 => ?_)
  · refine aw_iload_n (npc := 9) rfl dX7_heldWithin_8 rfl ?_
    refine aw_iload_n (npc := 10) rfl dX7_heldWithin_9 rfl ?_
    refine aw_mmin (npc := 13) dX7_heldWithin_10 rfl kmm_X7_148 kmx_min (Nat.le_of_ble_eq_true rfl) ?_
    refine aw_iret rfl dX7_heldWithin_13 ?_
    exact (show hw v m = (if m < v then m else v) by simp [hw, hc1]) ▸ hq
  · refine aw_iconst (npc := 5) (v := 0) (by decide) dX7_heldWithin_4 rfl ?_
    refine aw_goto (npc := 13) dX7_heldWithin_5 (by decide) ?_
    refine aw_iret rfl dX7_heldWithin_13 ?_
    exact (show hw v m = 0 by simp [hw, hc1]) ▸ hq
set_option maxHeartbeats 4000000 in
set_option maxRecDepth 100000 in
theorem g_textFor0 {X : List Int32} {d rc rs n : Nat} {Q : am_Q} {b : Nat} {N : Nat → Int32} {tx : List Value} {lk mv : Nat → Int32} {h : am_H} {c : Nat} {T : Nat} (F : QR b N tx lk mv h) (hc7 : N 7 = nI c) (hv : TXv T c tx) (k1 : ∀ t a, lk 0 = nI t → t < c → a < T → tx[t]? = some (.ref (92 + 3 * a)) → Q (some (.ref (92 + 3 * a))) n h) (k0 : ¬ wi (lk 0) 0 (N 7 - 1) → Q (some .null) n h) : AW X mX0_textFor (d + 2) rc rs 0 [some (.ref b), some (.int 0), none] [] n h Q := by
  refine aw_aload_n (npc := 1) rfl dX0_textFor_0 rfl ?_
  refine aw_get (npc := 4) dX0_textFor_1 rfl kf_X0_67 F.1 rfl ?_
  refine aw_iload_n (npc := 5) rfl dX0_textFor_4 rfl ?_
  refine aw_iald (npc := 6) (x := lk 0) (j := 0) dX0_textFor_5 rfl F.2.2.2.2.2.2.2.2.2.2.1 ⟨by decide, by decide⟩ (tl_at (by omega)) ?_
  refine aw_istore_n (npc := 7) (L' := [some (.ref b), some (.int 0), some (.int (lk 0))]) dX0_textFor_6 rfl (by decide) rfl rfl ?_
  refine aw_iload_n (npc := 8) rfl dX0_textFor_7 rfl ?_
  refine aw_iconst (npc := 9) (v := 0) (by decide) dX0_textFor_8 rfl ?_
  refine aw_aload_n (npc := 10) rfl dX0_textFor_9 rfl ?_
  refine aw_get (npc := 13) dX0_textFor_10 rfl kf_X0_64 F.1 rfl ?_
  refine aw_iconst (npc := 14) (v := 1) (by decide) dX0_textFor_13 rfl ?_
  refine aw_isub (npc := 15) dX0_textFor_14 rfl ?_
  refine aw_callSN (npc := 18) (N := mX7_within) (mc := 0) (ms := 0) (A := [.int (lk 0), .int 0, .int ((N 7) - 1)]) (S := []) (L0 := [some (.int (lk 0)), some (.int 0), some (.int ((N 7) - 1))]) dX0_textFor_15 rfl km_X7_within kk_X0_79 rfl ⟨rfl, by decide⟩ rfl (Nat.le_of_ble_eq_true rfl) (Nat.zero_add _) (Nat.zero_add _) rfl ?_
  refine c_X7_within (fun hw1 => ?_) (fun hw1 => ?_)
  · refine aw_re (S' := [.int 1]) rfl ?_
    refine aw_if_eq (npc := 21) (tgt := 30) dX0_textFor_18 rfl (by decide) (fun hc => absurd hc (by decide)) (fun _ => ?_)
    obtain ⟨t, ht, hlk⟩ := wi_idx hc7 (by have z := hv.2.1; omega) hw1
    obtain ⟨a, ha, hta⟩ := hv.2.2.2 t ht
    have ht2 := hv.2.1
    refine aw_locs (L' := [some (.ref b), some (.int 0), some (.int (nI t))]) (by rw [hlk]) ?_
    refine aw_aload_n (npc := 22) rfl dX0_textFor_21 rfl ?_
    refine aw_get (npc := 25) dX0_textFor_22 rfl kf_X0_60 F.1 rfl ?_
    refine aw_iload_n (npc := 26) rfl dX0_textFor_25 rfl ?_
    refine aw_aald (npc := 27) (j := t) dX0_textFor_26 rfl (by decide) F.2.2.2.2.2.2.2.2.2.1 (am_ix_nI (by omega)) hta ?_
    refine aw_goto (npc := 31) dX0_textFor_27 (by decide) ?_
    refine aw_aret rfl (Or.inl ⟨_, rfl⟩) dX0_textFor_31 ?_
    exact k1 t a hlk ht ha hta
  · refine aw_re (S' := [.int 0]) rfl ?_
    refine aw_if_eq (npc := 21) (tgt := 30) dX0_textFor_18 rfl (by decide) (fun _ => ?_) (fun hc => absurd (by decide) hc)
    refine aw_null (npc := 31) dX0_textFor_30 rfl ?_
    refine aw_aretN rfl (Or.inl ⟨_, rfl⟩) dX0_textFor_31 ?_
    exact k0 hw1
set_option maxHeartbeats 4000000 in
set_option maxRecDepth 100000 in
theorem g_textFor1 {X : List Int32} {d rc rs n : Nat} {Q : am_Q} {b : Nat} {N : Nat → Int32} {tx : List Value} {lk mv : Nat → Int32} {h : am_H} {c : Nat} {T : Nat} (F : QR b N tx lk mv h) (hc7 : N 7 = nI c) (hv : TXv T c tx) (k1 : ∀ t a, lk 1 = nI t → t < c → a < T → tx[t]? = some (.ref (92 + 3 * a)) → Q (some (.ref (92 + 3 * a))) n h) (k0 : ¬ wi (lk 1) 0 (N 7 - 1) → Q (some .null) n h) : AW X mX0_textFor (d + 2) rc rs 0 [some (.ref b), some (.int 1), none] [] n h Q := by
  refine aw_aload_n (npc := 1) rfl dX0_textFor_0 rfl ?_
  refine aw_get (npc := 4) dX0_textFor_1 rfl kf_X0_67 F.1 rfl ?_
  refine aw_iload_n (npc := 5) rfl dX0_textFor_4 rfl ?_
  refine aw_iald (npc := 6) (x := lk 1) (j := 1) dX0_textFor_5 rfl F.2.2.2.2.2.2.2.2.2.2.1 ⟨by decide, by decide⟩ (tl_at (by omega)) ?_
  refine aw_istore_n (npc := 7) (L' := [some (.ref b), some (.int 1), some (.int (lk 1))]) dX0_textFor_6 rfl (by decide) rfl rfl ?_
  refine aw_iload_n (npc := 8) rfl dX0_textFor_7 rfl ?_
  refine aw_iconst (npc := 9) (v := 0) (by decide) dX0_textFor_8 rfl ?_
  refine aw_aload_n (npc := 10) rfl dX0_textFor_9 rfl ?_
  refine aw_get (npc := 13) dX0_textFor_10 rfl kf_X0_64 F.1 rfl ?_
  refine aw_iconst (npc := 14) (v := 1) (by decide) dX0_textFor_13 rfl ?_
  refine aw_isub (npc := 15) dX0_textFor_14 rfl ?_
  refine aw_callSN (npc := 18) (N := mX7_within) (mc := 0) (ms := 0) (A := [.int (lk 1), .int 0, .int ((N 7) - 1)]) (S := []) (L0 := [some (.int (lk 1)), some (.int 0), some (.int ((N 7) - 1))]) dX0_textFor_15 rfl km_X7_within kk_X0_79 rfl ⟨rfl, by decide⟩ rfl (Nat.le_of_ble_eq_true rfl) (Nat.zero_add _) (Nat.zero_add _) rfl ?_
  refine c_X7_within (fun hw1 => ?_) (fun hw1 => ?_)
  · refine aw_re (S' := [.int 1]) rfl ?_
    refine aw_if_eq (npc := 21) (tgt := 30) dX0_textFor_18 rfl (by decide) (fun hc => absurd hc (by decide)) (fun _ => ?_)
    obtain ⟨t, ht, hlk⟩ := wi_idx hc7 (by have z := hv.2.1; omega) hw1
    obtain ⟨a, ha, hta⟩ := hv.2.2.2 t ht
    have ht2 := hv.2.1
    refine aw_locs (L' := [some (.ref b), some (.int 1), some (.int (nI t))]) (by rw [hlk]) ?_
    refine aw_aload_n (npc := 22) rfl dX0_textFor_21 rfl ?_
    refine aw_get (npc := 25) dX0_textFor_22 rfl kf_X0_60 F.1 rfl ?_
    refine aw_iload_n (npc := 26) rfl dX0_textFor_25 rfl ?_
    refine aw_aald (npc := 27) (j := t) dX0_textFor_26 rfl (by decide) F.2.2.2.2.2.2.2.2.2.1 (am_ix_nI (by omega)) hta ?_
    refine aw_goto (npc := 31) dX0_textFor_27 (by decide) ?_
    refine aw_aret rfl (Or.inl ⟨_, rfl⟩) dX0_textFor_31 ?_
    exact k1 t a hlk ht ha hta
  · refine aw_re (S' := [.int 0]) rfl ?_
    refine aw_if_eq (npc := 21) (tgt := 30) dX0_textFor_18 rfl (by decide) (fun _ => ?_) (fun hc => absurd (by decide) hc)
    refine aw_null (npc := 31) dX0_textFor_30 rfl ?_
    refine aw_aretN rfl (Or.inl ⟨_, rfl⟩) dX0_textFor_31 ?_
    exact k0 hw1
set_option maxHeartbeats 4000000 in
set_option maxRecDepth 100000 in
theorem g_textFor2 {X : List Int32} {d rc rs n : Nat} {Q : am_Q} {b : Nat} {N : Nat → Int32} {tx : List Value} {lk mv : Nat → Int32} {h : am_H} {c : Nat} {T : Nat} (F : QR b N tx lk mv h) (hc7 : N 7 = nI c) (hv : TXv T c tx) (k1 : ∀ t a, lk 2 = nI t → t < c → a < T → tx[t]? = some (.ref (92 + 3 * a)) → Q (some (.ref (92 + 3 * a))) n h) (k0 : ¬ wi (lk 2) 0 (N 7 - 1) → Q (some .null) n h) : AW X mX0_textFor (d + 2) rc rs 0 [some (.ref b), some (.int 2), none] [] n h Q := by
  refine aw_aload_n (npc := 1) rfl dX0_textFor_0 rfl ?_
  refine aw_get (npc := 4) dX0_textFor_1 rfl kf_X0_67 F.1 rfl ?_
  refine aw_iload_n (npc := 5) rfl dX0_textFor_4 rfl ?_
  refine aw_iald (npc := 6) (x := lk 2) (j := 2) dX0_textFor_5 rfl F.2.2.2.2.2.2.2.2.2.2.1 ⟨by decide, by decide⟩ (tl_at (by omega)) ?_
  refine aw_istore_n (npc := 7) (L' := [some (.ref b), some (.int 2), some (.int (lk 2))]) dX0_textFor_6 rfl (by decide) rfl rfl ?_
  refine aw_iload_n (npc := 8) rfl dX0_textFor_7 rfl ?_
  refine aw_iconst (npc := 9) (v := 0) (by decide) dX0_textFor_8 rfl ?_
  refine aw_aload_n (npc := 10) rfl dX0_textFor_9 rfl ?_
  refine aw_get (npc := 13) dX0_textFor_10 rfl kf_X0_64 F.1 rfl ?_
  refine aw_iconst (npc := 14) (v := 1) (by decide) dX0_textFor_13 rfl ?_
  refine aw_isub (npc := 15) dX0_textFor_14 rfl ?_
  refine aw_callSN (npc := 18) (N := mX7_within) (mc := 0) (ms := 0) (A := [.int (lk 2), .int 0, .int ((N 7) - 1)]) (S := []) (L0 := [some (.int (lk 2)), some (.int 0), some (.int ((N 7) - 1))]) dX0_textFor_15 rfl km_X7_within kk_X0_79 rfl ⟨rfl, by decide⟩ rfl (Nat.le_of_ble_eq_true rfl) (Nat.zero_add _) (Nat.zero_add _) rfl ?_
  refine c_X7_within (fun hw1 => ?_) (fun hw1 => ?_)
  · refine aw_re (S' := [.int 1]) rfl ?_
    refine aw_if_eq (npc := 21) (tgt := 30) dX0_textFor_18 rfl (by decide) (fun hc => absurd hc (by decide)) (fun _ => ?_)
    obtain ⟨t, ht, hlk⟩ := wi_idx hc7 (by have z := hv.2.1; omega) hw1
    obtain ⟨a, ha, hta⟩ := hv.2.2.2 t ht
    have ht2 := hv.2.1
    refine aw_locs (L' := [some (.ref b), some (.int 2), some (.int (nI t))]) (by rw [hlk]) ?_
    refine aw_aload_n (npc := 22) rfl dX0_textFor_21 rfl ?_
    refine aw_get (npc := 25) dX0_textFor_22 rfl kf_X0_60 F.1 rfl ?_
    refine aw_iload_n (npc := 26) rfl dX0_textFor_25 rfl ?_
    refine aw_aald (npc := 27) (j := t) dX0_textFor_26 rfl (by decide) F.2.2.2.2.2.2.2.2.2.1 (am_ix_nI (by omega)) hta ?_
    refine aw_goto (npc := 31) dX0_textFor_27 (by decide) ?_
    refine aw_aret rfl (Or.inl ⟨_, rfl⟩) dX0_textFor_31 ?_
    exact k1 t a hlk ht ha hta
  · refine aw_re (S' := [.int 0]) rfl ?_
    refine aw_if_eq (npc := 21) (tgt := 30) dX0_textFor_18 rfl (by decide) (fun _ => ?_) (fun hc => absurd (by decide) hc)
    refine aw_null (npc := 31) dX0_textFor_30 rfl ?_
    refine aw_aretN rfl (Or.inl ⟨_, rfl⟩) dX0_textFor_31 ?_
    exact k0 hw1
def PLr (tb : TB) (tx : List Value) (lk N : Nat → Int32) (f : Nat) (pl : Int32) : Prop := (¬ wi (lk 0) 0 (N 7 - 1) ∧ pl = (N (24 + 5 * f) + N 3) / 2) ∨ ∃ t a sf, wi (lk 0) 0 (N 7 - 1) ∧ lk 0 = nI t ∧ a < tb.1 ∧ tx[t]? = some (.ref (92 + 3 * a)) ∧ pl = hw ((wcM (N (24 + 5 * f)) (N 3) (N (25 + 5 * f)) (tb.2.2.2.2.2 a) (tb.2.2.2.2.1 a) (tb.2.2.2.1 a) 0 (sf, 0)).1 0) 99
def toneK (k hv pl : Int32) : Int32 := if k = 5 then 0 else if k = 3 then (if hv < 40 then (if 99 < pl + 20 then 99 else pl + 20) else 0) else if k = 1 then (if 99 < pl + 20 then 99 else pl + 20) else if k = 2 then pl / 2 else if k = 4 then (if pl / 2 - 10 < 0 then 0 else pl / 2 - 10) else pl
def TNr (tb : TB) (tx : List Value) (lk N : Nat → Int32) (f : Nat) (τ : Int32) : Prop := ∃ pl, PLr tb tx lk N f pl ∧ τ = toneK (N (22 + 5 * f)) (N 3) pl
set_option maxHeartbeats 4000000 in
set_option maxRecDepth 100000 in
theorem g_plain {X : List Int32} {d rc rs n : Nat} {Q : am_Q} {b : Nat} {N : Nat → Int32} {tx : List Value} {lk mv : Nat → Int32} {h : am_H} {c f : Nat} {tb : TB} (F : QR b N tx lk mv h) (G : TT tb h) (hc7 : N 7 = nI c) (hv : TXv tb.1 c tx) (hf : f < 8) (hb : b + 12 ≤ 92) (hq : ∀ pl h9, PLr tb tx lk N f pl → QR b N tx lk mv h9 → TT tb h9 → am_fb 92 (92 + 3 * tb.1) h9 h → Q (some (.int pl)) n h9) : AW X mX0_plainTone (d + 6) rc rs 0 [some (.ref b), some (.int (nI f)), none] [] n h Q := by
  refine aw_aload_n (npc := 1) rfl dX0_plainTone_0 rfl ?_
  refine aw_iconst (npc := 2) (v := 0) (by decide) dX0_plainTone_1 rfl ?_
  refine aw_callV (npc := 5) (N := mX0_textFor) (b := b) (mc := 0) (ms := 0) (A := [.int 0]) (S := []) (L0 := [some (.ref b), some (.int 0), none]) dX0_plainTone_2 rfl km_X0_textFor kk_X0_106 F.1 ⟨by decide, rfl⟩ rfl ⟨rfl, by decide⟩ rfl (Nat.le_of_ble_eq_true rfl) (Nat.zero_add _) (Nat.zero_add _) rfl ?_
  refine g_textFor0 F hc7 hv (fun t a hlk ht ha hta => ?_) (fun hw0 => ?_)
  · refine aw_re (S' := [.ref (92 + 3 * a)]) rfl ?_
    refine aw_astore_n (npc := 6) (L' := [some (.ref b), some (.int (nI f)), some (.ref (92 + 3 * a))]) dX0_plainTone_5 rfl (by decide) rfl rfl ?_
    refine aw_aload_n (npc := 7) rfl dX0_plainTone_6 rfl ?_
    refine aw_ifnonnull (npc := 24) dX0_plainTone_7 (by decide) ?_
    obtain ⟨t0, t1, ⟨sf, t2⟩, t3, t4, t5⟩ := G a ha
    refine aw_aload_n (npc := 25) rfl dX0_plainTone_24 rfl ?_
    refine aw_aload_n (npc := 26) rfl dX0_plainTone_25 rfl ?_
    refine aw_get (npc := 29) dX0_plainTone_26 rfl kf_X0_49 F.1 rfl ?_
    refine aw_iload_n (npc := 30) rfl dX0_plainTone_29 rfl ?_
    refine aw_iald (npc := 31) (x := N (24 + 5 * f)) (j := f) dX0_plainTone_30 rfl F.2.2.2.2.2.2.1 (am_ix_nI (by omega)) (tl_at (by omega)) ?_
    refine aw_aload_n (npc := 32) rfl dX0_plainTone_31 rfl ?_
    refine aw_get (npc := 35) dX0_plainTone_32 rfl kf_X0_21 F.1 rfl ?_
    refine aw_aload_n (npc := 36) rfl dX0_plainTone_35 rfl ?_
    refine aw_get (npc := 39) dX0_plainTone_36 rfl kf_X0_52 F.1 rfl ?_
    refine aw_iload_n (npc := 40) rfl dX0_plainTone_39 rfl ?_
    refine aw_iald (npc := 41) (x := N (25 + 5 * f)) (j := f) dX0_plainTone_40 rfl F.2.2.2.2.2.2.2.1 (am_ix_nI (by omega)) (tl_at (by omega)) ?_
    refine aw_callV (npc := 44) (N := mX5_workOut) (b := (92 + 3 * a)) (mc := 0) (ms := 0) (A := [.int (N (24 + 5 * f)), .int (N 3), .int (N (25 + 5 * f))]) (S := []) (L0 := [some (.ref (92 + 3 * a)), some (.int (N (24 + 5 * f))), some (.int (N 3)), some (.int (N (25 + 5 * f))), none, none, none]) dX0_plainTone_41 rfl km_X5_workOut kk_X0_110 t0 ⟨by decide, rfl⟩ rfl ⟨rfl, by decide⟩ rfl (Nat.le_of_ble_eq_true rfl) (Nat.zero_add _) (Nat.zero_add _) rfl ?_
    refine g_work (h := h) (a0 := 92 + 3 * a) (a1 := 93 + 3 * a) (a2 := 94 + 3 * a) (by omega) (by omega) t3 t4 t5 t0 t1 t2 (fun sf9 hsf => ?_)
    refine aw_re (S' := [.int (sf9 0)]) rfl ?_
    refine aw_bipush (npc := 46) (v := 99) (by decide) dX0_plainTone_44 rfl ?_
    refine aw_callSN (npc := 49) (N := mX7_heldWithin) (mc := 0) (ms := 0) (A := [.int (sf9 0), .int 99]) (S := []) (L0 := [some (.int (sf9 0)), some (.int 99)]) dX0_plainTone_46 rfl km_X7_heldWithin kk_X0_114 rfl ⟨rfl, by decide⟩ rfl (Nat.le_of_ble_eq_true rfl) (Nat.zero_add _) (Nat.zero_add _) rfl ?_
    refine g_held ?_
    refine aw_re (S' := [.int (hw (sf9 0) 99)]) rfl ?_
    refine aw_iret rfl dX0_plainTone_49 ?_
    refine hq _ _ (Or.inr ⟨t, a, sf, wi_idx' hc7 (by have z := hv.2.1; omega) ht hlk, hlk, ha, hta, by rw [← hsf]⟩) (qr_out (by omega) F) (tt_stack G) (am_fbU (by omega) am_fb0)
  · refine aw_re (S' := [.null]) rfl ?_
    refine aw_astore_nN (npc := 6) (L' := [some (.ref b), some (.int (nI f)), some (.null)]) dX0_plainTone_5 rfl (by decide) rfl rfl ?_
    refine aw_aload_nN (npc := 7) rfl dX0_plainTone_6 rfl ?_
    refine aw_ifnonnullN (npc := 10) dX0_plainTone_7 rfl ?_
    refine aw_aload_n (npc := 11) rfl dX0_plainTone_10 rfl ?_
    refine aw_get (npc := 14) dX0_plainTone_11 rfl kf_X0_49 F.1 rfl ?_
    refine aw_iload_n (npc := 15) rfl dX0_plainTone_14 rfl ?_
    refine aw_iald (npc := 16) (x := N (24 + 5 * f)) (j := f) dX0_plainTone_15 rfl F.2.2.2.2.2.2.1 (am_ix_nI (by omega)) (tl_at (by omega)) ?_
    refine aw_aload_n (npc := 17) rfl dX0_plainTone_16 rfl ?_
    refine aw_get (npc := 20) dX0_plainTone_17 rfl kf_X0_21 F.1 rfl ?_
    refine aw_iadd (npc := 21) dX0_plainTone_20 rfl ?_
    refine aw_iconst (npc := 22) (v := 2) (by decide) dX0_plainTone_21 rfl ?_
    refine aw_idiv (npc := 23) (by decide) dX0_plainTone_22 rfl ?_
    refine aw_iret rfl dX0_plainTone_23 ?_
    exact hq _ _ (Or.inl ⟨hw0, rfl⟩) F G am_fb0
theorem pl_ex {tb : TB} {tx : List Value} {lk N : Nat → Int32} {c f : Nat} {h : am_H} (G : TT tb h) (hc7 : N 7 = nI c) (hv : TXv tb.1 c tx) : ∃ pl, PLr tb tx lk N f pl := by
  by_cases hw0 : wi (lk 0) 0 (N 7 - 1)
  · obtain ⟨t, ht, hlk⟩ := wi_idx hc7 (by have z := hv.2.1; omega) hw0
    obtain ⟨a, ha, hta⟩ := hv.2.2.2 t ht
    exact ⟨_, Or.inr ⟨t, a, fun _ => 0, hw0, hlk, ha, hta, rfl⟩⟩
  · exact ⟨_, Or.inl ⟨hw0, rfl⟩⟩
set_option maxHeartbeats 4000000 in
set_option maxRecDepth 100000 in
theorem g_tone {X : List Int32} {d rc rs n : Nat} {Q : am_Q} {b : Nat} {N : Nat → Int32} {tx : List Value} {lk mv : Nat → Int32} {h : am_H} {c f : Nat} {tb : TB} (F : QR b N tx lk mv h) (G : TT tb h) (hc7 : N 7 = nI c) (hv : TXv tb.1 c tx) (hf : f < 8) (hk : wi (N (22 + 5 * f)) 0 5) (hb : b + 12 ≤ 92) (hq : ∀ τ h9, TNr tb tx lk N f τ → QR b N tx lk mv h9 → TT tb h9 → am_fb 92 (92 + 3 * tb.1) h9 h → Q (some (.int τ)) n h9) : AW X mX0_toneOf (d + 8) rc rs 0 [some (.ref b), some (.int (nI f)), none, none] [] n h Q := by
  refine aw_aload_n (npc := 1) rfl dX0_toneOf_0 rfl ?_
  refine aw_get (npc := 4) dX0_toneOf_1 rfl kf_X0_43 F.1 rfl ?_
  refine aw_iload_n (npc := 5) rfl dX0_toneOf_4 rfl ?_
  refine aw_iald (npc := 6) (x := N (22 + 5 * f)) (j := f) dX0_toneOf_5 rfl F.2.2.2.2.1 (am_ix_nI (by omega)) (tl_at (by omega)) ?_
  rcases wi_c0_5 hk with ek | ek | ek | ek | ek | ek
  · refine aw_top (y := 0) ek ?_
    refine aw_istore_n (npc := 7) (L' := [some (.ref b), some (.int (nI f)), some (.int 0), none]) dX0_toneOf_6 rfl (by decide) rfl rfl ?_
    refine aw_iload_n (npc := 8) rfl dX0_toneOf_7 rfl ?_
    refine aw_iconst (npc := 9) (v := 5) (by decide) dX0_toneOf_8 rfl ?_
    refine aw_icmp_eq (npc := 12) (tgt := 26) dX0_toneOf_9 rfl (by decide) (fun hc => absurd hc (by decide)) (fun _ => ?_)
    refine aw_iload_n (npc := 13) rfl dX0_toneOf_12 rfl ?_
    refine aw_iconst (npc := 14) (v := 3) (by decide) dX0_toneOf_13 rfl ?_
    refine aw_icmp_ne (npc := 17) (tgt := 28) dX0_toneOf_14 rfl (by decide) (fun _ => ?_) (fun hc => absurd hc (by decide))
    refine aw_aload_n (npc := 29) rfl dX0_toneOf_28 rfl ?_
    refine aw_iload_n (npc := 30) rfl dX0_toneOf_29 rfl ?_
    refine aw_callV (npc := 33) (N := mX0_plainTone) (b := b) (mc := 0) (ms := 0) (A := [.int (nI f)]) (S := []) (L0 := [some (.ref b), some (.int (nI f)), none]) dX0_toneOf_30 rfl km_X0_plainTone kk_X0_95 F.1 ⟨by decide, rfl⟩ rfl ⟨rfl, by decide⟩ rfl (Nat.le_of_ble_eq_true rfl) (Nat.zero_add _) (Nat.zero_add _) rfl ?_
    refine g_plain F G hc7 hv hf hb (fun pl h9 hpl F9 G9 fz => ?_)
    refine aw_re (S' := [.int pl]) rfl ?_
    refine aw_istore_n (npc := 34) (L' := [some (.ref b), some (.int (nI f)), some (.int 0), some (.int pl)]) dX0_toneOf_33 rfl (by decide) rfl rfl ?_
    refine aw_iload_n (npc := 35) rfl dX0_toneOf_34 rfl ?_
    refine aw_tableOut (npc := 89) dX0_toneOf_35 (by decide) (by decide) ?_
    refine aw_iload_n (npc := 90) rfl dX0_toneOf_89 rfl ?_
    refine aw_iret rfl dX0_toneOf_90 ?_
    exact hq _ _ ⟨pl, hpl, by simp [toneK, ek]⟩ F9 G9 fz
  · refine aw_top (y := 1) ek ?_
    refine aw_istore_n (npc := 7) (L' := [some (.ref b), some (.int (nI f)), some (.int 1), none]) dX0_toneOf_6 rfl (by decide) rfl rfl ?_
    refine aw_iload_n (npc := 8) rfl dX0_toneOf_7 rfl ?_
    refine aw_iconst (npc := 9) (v := 5) (by decide) dX0_toneOf_8 rfl ?_
    refine aw_icmp_eq (npc := 12) (tgt := 26) dX0_toneOf_9 rfl (by decide) (fun hc => absurd hc (by decide)) (fun _ => ?_)
    refine aw_iload_n (npc := 13) rfl dX0_toneOf_12 rfl ?_
    refine aw_iconst (npc := 14) (v := 3) (by decide) dX0_toneOf_13 rfl ?_
    refine aw_icmp_ne (npc := 17) (tgt := 28) dX0_toneOf_14 rfl (by decide) (fun _ => ?_) (fun hc => absurd hc (by decide))
    refine aw_aload_n (npc := 29) rfl dX0_toneOf_28 rfl ?_
    refine aw_iload_n (npc := 30) rfl dX0_toneOf_29 rfl ?_
    refine aw_callV (npc := 33) (N := mX0_plainTone) (b := b) (mc := 0) (ms := 0) (A := [.int (nI f)]) (S := []) (L0 := [some (.ref b), some (.int (nI f)), none]) dX0_toneOf_30 rfl km_X0_plainTone kk_X0_95 F.1 ⟨by decide, rfl⟩ rfl ⟨rfl, by decide⟩ rfl (Nat.le_of_ble_eq_true rfl) (Nat.zero_add _) (Nat.zero_add _) rfl ?_
    refine g_plain F G hc7 hv hf hb (fun pl h9 hpl F9 G9 fz => ?_)
    refine aw_re (S' := [.int pl]) rfl ?_
    refine aw_istore_n (npc := 34) (L' := [some (.ref b), some (.int (nI f)), some (.int 1), some (.int pl)]) dX0_toneOf_33 rfl (by decide) rfl rfl ?_
    refine aw_iload_n (npc := 35) rfl dX0_toneOf_34 rfl ?_
    refine aw_tableIn (npc := 64) dX0_toneOf_35 (by decide) (by decide) rfl (by decide) ?_
    refine aw_iload_n (npc := 65) rfl dX0_toneOf_64 rfl ?_
    refine aw_bipush (npc := 67) (v := 20) (by decide) dX0_toneOf_65 rfl ?_
    refine aw_iadd (npc := 68) dX0_toneOf_67 rfl ?_
    refine aw_bipush (npc := 70) (v := 99) (by decide) dX0_toneOf_68 rfl ?_
    refine aw_mmin (npc := 73) dX0_toneOf_70 rfl kmm_X0_98 kmx_min (Nat.le_of_ble_eq_true rfl) ?_
    refine aw_iret rfl dX0_toneOf_73 ?_
    exact hq _ _ ⟨pl, hpl, by simp [toneK, ek]⟩ F9 G9 fz
  · refine aw_top (y := 2) ek ?_
    refine aw_istore_n (npc := 7) (L' := [some (.ref b), some (.int (nI f)), some (.int 2), none]) dX0_toneOf_6 rfl (by decide) rfl rfl ?_
    refine aw_iload_n (npc := 8) rfl dX0_toneOf_7 rfl ?_
    refine aw_iconst (npc := 9) (v := 5) (by decide) dX0_toneOf_8 rfl ?_
    refine aw_icmp_eq (npc := 12) (tgt := 26) dX0_toneOf_9 rfl (by decide) (fun hc => absurd hc (by decide)) (fun _ => ?_)
    refine aw_iload_n (npc := 13) rfl dX0_toneOf_12 rfl ?_
    refine aw_iconst (npc := 14) (v := 3) (by decide) dX0_toneOf_13 rfl ?_
    refine aw_icmp_ne (npc := 17) (tgt := 28) dX0_toneOf_14 rfl (by decide) (fun _ => ?_) (fun hc => absurd hc (by decide))
    refine aw_aload_n (npc := 29) rfl dX0_toneOf_28 rfl ?_
    refine aw_iload_n (npc := 30) rfl dX0_toneOf_29 rfl ?_
    refine aw_callV (npc := 33) (N := mX0_plainTone) (b := b) (mc := 0) (ms := 0) (A := [.int (nI f)]) (S := []) (L0 := [some (.ref b), some (.int (nI f)), none]) dX0_toneOf_30 rfl km_X0_plainTone kk_X0_95 F.1 ⟨by decide, rfl⟩ rfl ⟨rfl, by decide⟩ rfl (Nat.le_of_ble_eq_true rfl) (Nat.zero_add _) (Nat.zero_add _) rfl ?_
    refine g_plain F G hc7 hv hf hb (fun pl h9 hpl F9 G9 fz => ?_)
    refine aw_re (S' := [.int pl]) rfl ?_
    refine aw_istore_n (npc := 34) (L' := [some (.ref b), some (.int (nI f)), some (.int 2), some (.int pl)]) dX0_toneOf_33 rfl (by decide) rfl rfl ?_
    refine aw_iload_n (npc := 35) rfl dX0_toneOf_34 rfl ?_
    refine aw_tableIn (npc := 74) dX0_toneOf_35 (by decide) (by decide) rfl (by decide) ?_
    refine aw_iload_n (npc := 75) rfl dX0_toneOf_74 rfl ?_
    refine aw_iconst (npc := 76) (v := 2) (by decide) dX0_toneOf_75 rfl ?_
    refine aw_idiv (npc := 77) (by decide) dX0_toneOf_76 rfl ?_
    refine aw_iret rfl dX0_toneOf_77 ?_
    exact hq _ _ ⟨pl, hpl, by simp [toneK, ek]⟩ F9 G9 fz
  · refine aw_top (y := 3) ek ?_
    refine aw_istore_n (npc := 7) (L' := [some (.ref b), some (.int (nI f)), some (.int 3), none]) dX0_toneOf_6 rfl (by decide) rfl rfl ?_
    refine aw_iload_n (npc := 8) rfl dX0_toneOf_7 rfl ?_
    refine aw_iconst (npc := 9) (v := 5) (by decide) dX0_toneOf_8 rfl ?_
    refine aw_icmp_eq (npc := 12) (tgt := 26) dX0_toneOf_9 rfl (by decide) (fun hc => absurd hc (by decide)) (fun _ => ?_)
    refine aw_iload_n (npc := 13) rfl dX0_toneOf_12 rfl ?_
    refine aw_iconst (npc := 14) (v := 3) (by decide) dX0_toneOf_13 rfl ?_
    refine aw_icmp_ne (npc := 17) (tgt := 28) dX0_toneOf_14 rfl (by decide) (fun hc => absurd (by decide) hc) (fun _ => ?_)
    refine aw_aload_n (npc := 18) rfl dX0_toneOf_17 rfl ?_
    refine aw_get (npc := 21) dX0_toneOf_18 rfl kf_X0_21 F.1 rfl ?_
    refine aw_bipush (npc := 23) (v := 40) (by decide) dX0_toneOf_21 rfl ?_
    refine aw_icmp_lt (npc := 26) (tgt := 28) dX0_toneOf_23 rfl (by decide) (fun hc1 => ?_) (fun hc1 => ?_)
    · refine aw_aload_n (npc := 29) rfl dX0_toneOf_28 rfl ?_
      refine aw_iload_n (npc := 30) rfl dX0_toneOf_29 rfl ?_
      refine aw_callV (npc := 33) (N := mX0_plainTone) (b := b) (mc := 0) (ms := 0) (A := [.int (nI f)]) (S := []) (L0 := [some (.ref b), some (.int (nI f)), none]) dX0_toneOf_30 rfl km_X0_plainTone kk_X0_95 F.1 ⟨by decide, rfl⟩ rfl ⟨rfl, by decide⟩ rfl (Nat.le_of_ble_eq_true rfl) (Nat.zero_add _) (Nat.zero_add _) rfl ?_
      refine g_plain F G hc7 hv hf hb (fun pl h9 hpl F9 G9 fz => ?_)
      refine aw_re (S' := [.int pl]) rfl ?_
      refine aw_istore_n (npc := 34) (L' := [some (.ref b), some (.int (nI f)), some (.int 3), some (.int pl)]) dX0_toneOf_33 rfl (by decide) rfl rfl ?_
      refine aw_iload_n (npc := 35) rfl dX0_toneOf_34 rfl ?_
      refine aw_tableIn (npc := 64) dX0_toneOf_35 (by decide) (by decide) rfl (by decide) ?_
      refine aw_iload_n (npc := 65) rfl dX0_toneOf_64 rfl ?_
      refine aw_bipush (npc := 67) (v := 20) (by decide) dX0_toneOf_65 rfl ?_
      refine aw_iadd (npc := 68) dX0_toneOf_67 rfl ?_
      refine aw_bipush (npc := 70) (v := 99) (by decide) dX0_toneOf_68 rfl ?_
      refine aw_mmin (npc := 73) dX0_toneOf_70 rfl kmm_X0_98 kmx_min (Nat.le_of_ble_eq_true rfl) ?_
      refine aw_iret rfl dX0_toneOf_73 ?_
      exact hq _ _ ⟨pl, hpl, by simp [toneK, ek, hc1]⟩ F9 G9 fz
    · refine aw_iconst (npc := 27) (v := 0) (by decide) dX0_toneOf_26 rfl ?_
      refine aw_iret rfl dX0_toneOf_27 ?_
      obtain ⟨pl, hpl⟩ := pl_ex (lk := lk) (f := f) G hc7 hv
      exact hq _ _ ⟨pl, hpl, by simp [toneK, ek, hc1]⟩ F G am_fb0
  · refine aw_top (y := 4) ek ?_
    refine aw_istore_n (npc := 7) (L' := [some (.ref b), some (.int (nI f)), some (.int 4), none]) dX0_toneOf_6 rfl (by decide) rfl rfl ?_
    refine aw_iload_n (npc := 8) rfl dX0_toneOf_7 rfl ?_
    refine aw_iconst (npc := 9) (v := 5) (by decide) dX0_toneOf_8 rfl ?_
    refine aw_icmp_eq (npc := 12) (tgt := 26) dX0_toneOf_9 rfl (by decide) (fun hc => absurd hc (by decide)) (fun _ => ?_)
    refine aw_iload_n (npc := 13) rfl dX0_toneOf_12 rfl ?_
    refine aw_iconst (npc := 14) (v := 3) (by decide) dX0_toneOf_13 rfl ?_
    refine aw_icmp_ne (npc := 17) (tgt := 28) dX0_toneOf_14 rfl (by decide) (fun _ => ?_) (fun hc => absurd hc (by decide))
    refine aw_aload_n (npc := 29) rfl dX0_toneOf_28 rfl ?_
    refine aw_iload_n (npc := 30) rfl dX0_toneOf_29 rfl ?_
    refine aw_callV (npc := 33) (N := mX0_plainTone) (b := b) (mc := 0) (ms := 0) (A := [.int (nI f)]) (S := []) (L0 := [some (.ref b), some (.int (nI f)), none]) dX0_toneOf_30 rfl km_X0_plainTone kk_X0_95 F.1 ⟨by decide, rfl⟩ rfl ⟨rfl, by decide⟩ rfl (Nat.le_of_ble_eq_true rfl) (Nat.zero_add _) (Nat.zero_add _) rfl ?_
    refine g_plain F G hc7 hv hf hb (fun pl h9 hpl F9 G9 fz => ?_)
    refine aw_re (S' := [.int pl]) rfl ?_
    refine aw_istore_n (npc := 34) (L' := [some (.ref b), some (.int (nI f)), some (.int 4), some (.int pl)]) dX0_toneOf_33 rfl (by decide) rfl rfl ?_
    refine aw_iload_n (npc := 35) rfl dX0_toneOf_34 rfl ?_
    refine aw_tableIn (npc := 78) dX0_toneOf_35 (by decide) (by decide) rfl (by decide) ?_
    refine aw_iload_n (npc := 79) rfl dX0_toneOf_78 rfl ?_
    refine aw_iconst (npc := 80) (v := 2) (by decide) dX0_toneOf_79 rfl ?_
    refine aw_idiv (npc := 81) (by decide) dX0_toneOf_80 rfl ?_
    refine aw_bipush (npc := 83) (v := 10) (by decide) dX0_toneOf_81 rfl ?_
    refine aw_isub (npc := 84) dX0_toneOf_83 rfl ?_
    refine aw_iconst (npc := 85) (v := 0) (by decide) dX0_toneOf_84 rfl ?_
    refine aw_mmax (npc := 88) dX0_toneOf_85 rfl kmm_X0_103 kmx_max (Nat.le_of_ble_eq_true rfl) ?_
    refine aw_iret rfl dX0_toneOf_88 ?_
    exact hq _ _ ⟨pl, hpl, by simp [toneK, ek]⟩ F9 G9 fz
  · refine aw_top (y := 5) ek ?_
    refine aw_istore_n (npc := 7) (L' := [some (.ref b), some (.int (nI f)), some (.int 5), none]) dX0_toneOf_6 rfl (by decide) rfl rfl ?_
    refine aw_iload_n (npc := 8) rfl dX0_toneOf_7 rfl ?_
    refine aw_iconst (npc := 9) (v := 5) (by decide) dX0_toneOf_8 rfl ?_
    refine aw_icmp_eq (npc := 12) (tgt := 26) dX0_toneOf_9 rfl (by decide) (fun _ => ?_) (fun hc => absurd (by decide) hc)
    refine aw_iconst (npc := 27) (v := 0) (by decide) dX0_toneOf_26 rfl ?_
    refine aw_iret rfl dX0_toneOf_27 ?_
    obtain ⟨pl, hpl⟩ := pl_ex (lk := lk) (f := f) G hc7 hv
    exact hq _ _ ⟨pl, hpl, by simp [toneK, ek]⟩ F G am_fb0
def tyStp (s g jo : Nat) (N : Nat → Int32) (t : Nat) (p : Int32 × Int32) : Int32 × Int32 := if (if s = 0 then N (8 + 1 * t) ≤ 0 else 9 ≤ N (8 + 1 * t)) then p else if p.1 < 0 then (nI t, N (12 + 1 * (jo + t))) else if (if g = 1 then N (12 + 1 * (jo + t)) ≤ p.2 else p.2 ≤ N (12 + 1 * (jo + t))) then p else (nI t, N (12 + 1 * (jo + t)))
def tyM (s g jo : Nat) (N : Nat → Int32) : Nat → Nat → Int32 × Int32 → Int32 × Int32
  | 0, _, p => p
  | m + 1, t, p => tyM s g jo N m (t + 1) (tyStp s g jo N t p)
def tyK (k s : Int32) (N : Nat → Int32) : Int32 := if s = 0 then (if k = 1 then (tyM 0 0 4 N 4 0 (-1, 0)).1 else if k = 3 then (tyM 0 0 4 N 4 0 (-1, 0)).1 else if k = 4 then (tyM 0 1 4 N 4 0 (-1, 0)).1 else if k = 5 then (tyM 0 1 0 N 4 0 (-1, 0)).1 else (tyM 0 0 0 N 4 0 (-1, 0)).1) else (if k = 1 then (tyM 1 0 0 N 4 0 (-1, 0)).1 else if k = 3 then (tyM 1 0 0 N 4 0 (-1, 0)).1 else if k = 4 then (tyM 1 1 0 N 4 0 (-1, 0)).1 else if k = 5 then (tyM 1 1 4 N 4 0 (-1, 0)).1 else (tyM 1 0 4 N 4 0 (-1, 0)).1)
def ty (N : Nat → Int32) (f : Nat) : Int32 := tyK (N (22 + 5 * f)) (N (23 + 5 * f)) N
set_option maxHeartbeats 4000000 in
set_option maxRecDepth 100000 in
theorem g_tyL000 {X : List Int32} {d rc rs n : Nat} {Q : am_Q} {b : Nat} {N : Nat → Int32} {tx : List Value} {lk mv : Nat → Int32} {h : am_H} {f : Nat} {kd bo : Int32} (F : QR b N tx lk mv h) : ∀ (m t : Nat), t + m = 4 → ∀ (bs bc : Int32) (v10 v11 : Option Value), Q (some (.int (tyM 0 0 0 N m t (bs, bc)).1)) n h → AW X mX0_termYielded (d + 3) rc rs 76 [some (.ref b), some (.int (nI f)), some (.int kd), some (.int 0), some (.int bo), some (.int 0), some (.int 0), some (.int bs), some (.int bc), some (.int (nI t)), v10, v11] [] n h Q := by
  intro m
  induction m with
  | zero =>
    intro t ht bs bc v10 v11 hq
    obtain rfl : t = 4 := by omega
    refine aw_iload (npc := 78) rfl dX0_termYielded_76 rfl ?_
    refine aw_iconst (npc := 79) (v := 4) (by decide) dX0_termYielded_78 rfl ?_
    refine aw_icmp_ge (npc := 82) (tgt := 183) dX0_termYielded_79 rfl (by decide) (fun _ => ?_) (fun hc => absurd (nI_le (a := 4) (b := 4) (by omega) (by omega)) hc)
    refine aw_iload (npc := 185) rfl dX0_termYielded_183 rfl ?_
    refine aw_iret rfl dX0_termYielded_185 ?_
    exact hq
  | succ m ih =>
    intro t ht bs bc v10 v11 hq
    refine aw_iload (npc := 78) rfl dX0_termYielded_76 rfl ?_
    refine aw_iconst (npc := 79) (v := 4) (by decide) dX0_termYielded_78 rfl ?_
    refine aw_icmp_ge (npc := 82) (tgt := 183) dX0_termYielded_79 rfl (by decide) (fun hc => absurd hc (nI_ge (a := t) (b := 4) (by omega) (by omega))) (fun _ => ?_)
    refine aw_iload_n (npc := 83) rfl dX0_termYielded_82 rfl ?_
    refine aw_if_ne (npc := 86) (tgt := 104) dX0_termYielded_83 rfl (by decide) (fun hc => absurd (by decide) hc) (fun _ => ?_)
    refine aw_aload_n (npc := 87) rfl dX0_termYielded_86 rfl ?_
    refine aw_get (npc := 90) dX0_termYielded_87 rfl kf_X0_9 F.1 rfl ?_
    refine aw_iload (npc := 92) rfl dX0_termYielded_90 rfl ?_
    refine aw_iald (npc := 93) (x := N (8 + 1 * t)) (j := t) dX0_termYielded_92 rfl F.2.1 (am_ix_nI (by omega)) (tl_at (by omega)) ?_
    refine aw_if_le (npc := 96) (tgt := 100) dX0_termYielded_93 rfl (by decide) (fun hc2 => ?_) (fun hc2 => ?_)
    · refine aw_iconst (npc := 101) (v := 0) (by decide) dX0_termYielded_100 rfl ?_
      refine aw_goto (npc := 121) dX0_termYielded_101 (by decide) ?_
      refine aw_istore (npc := 123) (L' := [some (.ref b), some (.int (nI f)), some (.int kd), some (.int 0), some (.int bo), some (.int 0), some (.int 0), some (.int bs), some (.int bc), some (.int (nI t)), some (.int 0), v11]) dX0_termYielded_121 rfl (by decide) rfl rfl ?_
      refine aw_aload_n (npc := 124) rfl dX0_termYielded_123 rfl ?_
      refine aw_get (npc := 127) dX0_termYielded_124 rfl kf_X0_15 F.1 rfl ?_
      refine aw_iload (npc := 129) rfl dX0_termYielded_127 rfl ?_
      refine aw_iload (npc := 131) rfl dX0_termYielded_129 rfl ?_
      refine aw_callSN (npc := 134) (N := mX7_carePlace) (mc := 0) (ms := 0) (A := [.int 0, .int (nI t)]) (S := [.ref (b + 2)]) (L0 := [some (.int 0), some (.int (nI t))]) dX0_termYielded_131 rfl km_X7_carePlace kk_X0_87 rfl ⟨rfl, by decide⟩ rfl (Nat.le_of_ble_eq_true rfl) (Nat.zero_add _) (Nat.zero_add _) rfl ?_
      refine aw_iload_n (npc := 1) rfl dX7_carePlace_0 rfl ?_
      refine aw_iconst (npc := 2) (v := 4) (by decide) dX7_carePlace_1 rfl ?_
      refine aw_imulV (npc := 3) (v := 0) dX7_carePlace_2 rfl (by decide) ?_
      refine aw_iload_n (npc := 4) rfl dX7_carePlace_3 rfl ?_
      refine aw_iaddV (npc := 5) (v := nI (0 + t)) dX7_carePlace_4 rfl (nI_add 0 _) ?_
      refine aw_iret rfl dX7_carePlace_5 ?_
      refine aw_re (S' := [.int (nI (0 + t)), .ref (b + 2)]) rfl ?_
      refine aw_iald (npc := 135) (x := N (12 + 1 * (0 + t))) (j := (0 + t)) dX0_termYielded_134 rfl F.2.2.1 (am_ix_nI (by omega)) (tl_at (by omega)) ?_
      refine aw_istore (npc := 137) (L' := [some (.ref b), some (.int (nI f)), some (.int kd), some (.int 0), some (.int bo), some (.int 0), some (.int 0), some (.int bs), some (.int bc), some (.int (nI t)), some (.int 0), some (.int (N (12 + 1 * (0 + t))))]) dX0_termYielded_135 rfl (by decide) rfl rfl ?_
      refine aw_iload (npc := 139) rfl dX0_termYielded_137 rfl ?_
      refine aw_if_eq (npc := 142) (tgt := 177) dX0_termYielded_139 rfl (by decide) (fun _ => ?_) (fun hc => absurd (by decide) hc)
      refine aw_iinc (npc := 180) (v := nI (t + 1)) (L' := [some (.ref b), some (.int (nI f)), some (.int kd), some (.int 0), some (.int bo), some (.int 0), some (.int 0), some (.int bs), some (.int bc), some (.int (nI (t + 1))), some (.int 0), some (.int (N (12 + 1 * (0 + t))))]) dX0_termYielded_177 rfl rfl (nI_1 _) (by decide) rfl rfl ?_
      refine aw_goto (npc := 76) dX0_termYielded_180 (by decide) ?_
      refine ih (t + 1) (by omega) bs bc _ _ ?_
      have e9 : tyStp 0 0 0 N t (bs, bc) = (bs, bc) := by simp [tyStp, hc2, -Nat.one_mul, -Nat.zero_add]
      exact (congrArg (tyM 0 0 0 N m (t + 1)) e9) ▸ hq
    · refine aw_iconst (npc := 97) (v := 1) (by decide) dX0_termYielded_96 rfl ?_
      refine aw_goto (npc := 121) dX0_termYielded_97 (by decide) ?_
      refine aw_istore (npc := 123) (L' := [some (.ref b), some (.int (nI f)), some (.int kd), some (.int 0), some (.int bo), some (.int 0), some (.int 0), some (.int bs), some (.int bc), some (.int (nI t)), some (.int 1), v11]) dX0_termYielded_121 rfl (by decide) rfl rfl ?_
      refine aw_aload_n (npc := 124) rfl dX0_termYielded_123 rfl ?_
      refine aw_get (npc := 127) dX0_termYielded_124 rfl kf_X0_15 F.1 rfl ?_
      refine aw_iload (npc := 129) rfl dX0_termYielded_127 rfl ?_
      refine aw_iload (npc := 131) rfl dX0_termYielded_129 rfl ?_
      refine aw_callSN (npc := 134) (N := mX7_carePlace) (mc := 0) (ms := 0) (A := [.int 0, .int (nI t)]) (S := [.ref (b + 2)]) (L0 := [some (.int 0), some (.int (nI t))]) dX0_termYielded_131 rfl km_X7_carePlace kk_X0_87 rfl ⟨rfl, by decide⟩ rfl (Nat.le_of_ble_eq_true rfl) (Nat.zero_add _) (Nat.zero_add _) rfl ?_
      refine aw_iload_n (npc := 1) rfl dX7_carePlace_0 rfl ?_
      refine aw_iconst (npc := 2) (v := 4) (by decide) dX7_carePlace_1 rfl ?_
      refine aw_imulV (npc := 3) (v := 0) dX7_carePlace_2 rfl (by decide) ?_
      refine aw_iload_n (npc := 4) rfl dX7_carePlace_3 rfl ?_
      refine aw_iaddV (npc := 5) (v := nI (0 + t)) dX7_carePlace_4 rfl (nI_add 0 _) ?_
      refine aw_iret rfl dX7_carePlace_5 ?_
      refine aw_re (S' := [.int (nI (0 + t)), .ref (b + 2)]) rfl ?_
      refine aw_iald (npc := 135) (x := N (12 + 1 * (0 + t))) (j := (0 + t)) dX0_termYielded_134 rfl F.2.2.1 (am_ix_nI (by omega)) (tl_at (by omega)) ?_
      refine aw_istore (npc := 137) (L' := [some (.ref b), some (.int (nI f)), some (.int kd), some (.int 0), some (.int bo), some (.int 0), some (.int 0), some (.int bs), some (.int bc), some (.int (nI t)), some (.int 1), some (.int (N (12 + 1 * (0 + t))))]) dX0_termYielded_135 rfl (by decide) rfl rfl ?_
      refine aw_iload (npc := 139) rfl dX0_termYielded_137 rfl ?_
      refine aw_if_eq (npc := 142) (tgt := 177) dX0_termYielded_139 rfl (by decide) (fun hc => absurd hc (by decide)) (fun _ => ?_)
      refine aw_iload (npc := 144) rfl dX0_termYielded_142 rfl ?_
      refine aw_if_lt (npc := 147) (tgt := 169) dX0_termYielded_144 rfl (by decide) (fun hc3 => ?_) (fun hc3 => ?_)
      · refine aw_iload (npc := 171) rfl dX0_termYielded_169 rfl ?_
        refine aw_istore (npc := 173) (L' := [some (.ref b), some (.int (nI f)), some (.int kd), some (.int 0), some (.int bo), some (.int 0), some (.int 0), some (.int (nI t)), some (.int bc), some (.int (nI t)), some (.int 1), some (.int (N (12 + 1 * (0 + t))))]) dX0_termYielded_171 rfl (by decide) rfl rfl ?_
        refine aw_iload (npc := 175) rfl dX0_termYielded_173 rfl ?_
        refine aw_istore (npc := 177) (L' := [some (.ref b), some (.int (nI f)), some (.int kd), some (.int 0), some (.int bo), some (.int 0), some (.int 0), some (.int (nI t)), some (.int (N (12 + 1 * (0 + t)))), some (.int (nI t)), some (.int 1), some (.int (N (12 + 1 * (0 + t))))]) dX0_termYielded_175 rfl (by decide) rfl rfl ?_
        refine aw_iinc (npc := 180) (v := nI (t + 1)) (L' := [some (.ref b), some (.int (nI f)), some (.int kd), some (.int 0), some (.int bo), some (.int 0), some (.int 0), some (.int (nI t)), some (.int (N (12 + 1 * (0 + t)))), some (.int (nI (t + 1))), some (.int 1), some (.int (N (12 + 1 * (0 + t))))]) dX0_termYielded_177 rfl rfl (nI_1 _) (by decide) rfl rfl ?_
        refine aw_goto (npc := 76) dX0_termYielded_180 (by decide) ?_
        refine ih (t + 1) (by omega) (nI t) (N (12 + 1 * (0 + t))) _ _ ?_
        have e9 : tyStp 0 0 0 N t (bs, bc) = (nI t, N (12 + 1 * (0 + t))) := by simp [tyStp, hc2, hc3, -Nat.one_mul, -Nat.zero_add]
        exact (congrArg (tyM 0 0 0 N m (t + 1)) e9) ▸ hq
      · refine aw_iload (npc := 149) rfl dX0_termYielded_147 rfl ?_
        refine aw_if_eq (npc := 152) (tgt := 162) dX0_termYielded_149 rfl (by decide) (fun _ => ?_) (fun hc => absurd (by decide) hc)
        refine aw_iload (npc := 164) rfl dX0_termYielded_162 rfl ?_
        refine aw_iload (npc := 166) rfl dX0_termYielded_164 rfl ?_
        refine aw_icmp_ge (npc := 169) (tgt := 177) dX0_termYielded_166 rfl (by decide) (fun hc4 => ?_) (fun hc4 => ?_)
        · refine aw_iinc (npc := 180) (v := nI (t + 1)) (L' := [some (.ref b), some (.int (nI f)), some (.int kd), some (.int 0), some (.int bo), some (.int 0), some (.int 0), some (.int bs), some (.int bc), some (.int (nI (t + 1))), some (.int 1), some (.int (N (12 + 1 * (0 + t))))]) dX0_termYielded_177 rfl rfl (nI_1 _) (by decide) rfl rfl ?_
          refine aw_goto (npc := 76) dX0_termYielded_180 (by decide) ?_
          refine ih (t + 1) (by omega) bs bc _ _ ?_
          have e9 : tyStp 0 0 0 N t (bs, bc) = (bs, bc) := by simp [tyStp, hc2, hc3, hc4, -Nat.one_mul, -Nat.zero_add]
          exact (congrArg (tyM 0 0 0 N m (t + 1)) e9) ▸ hq
        · refine aw_iload (npc := 171) rfl dX0_termYielded_169 rfl ?_
          refine aw_istore (npc := 173) (L' := [some (.ref b), some (.int (nI f)), some (.int kd), some (.int 0), some (.int bo), some (.int 0), some (.int 0), some (.int (nI t)), some (.int bc), some (.int (nI t)), some (.int 1), some (.int (N (12 + 1 * (0 + t))))]) dX0_termYielded_171 rfl (by decide) rfl rfl ?_
          refine aw_iload (npc := 175) rfl dX0_termYielded_173 rfl ?_
          refine aw_istore (npc := 177) (L' := [some (.ref b), some (.int (nI f)), some (.int kd), some (.int 0), some (.int bo), some (.int 0), some (.int 0), some (.int (nI t)), some (.int (N (12 + 1 * (0 + t)))), some (.int (nI t)), some (.int 1), some (.int (N (12 + 1 * (0 + t))))]) dX0_termYielded_175 rfl (by decide) rfl rfl ?_
          refine aw_iinc (npc := 180) (v := nI (t + 1)) (L' := [some (.ref b), some (.int (nI f)), some (.int kd), some (.int 0), some (.int bo), some (.int 0), some (.int 0), some (.int (nI t)), some (.int (N (12 + 1 * (0 + t)))), some (.int (nI (t + 1))), some (.int 1), some (.int (N (12 + 1 * (0 + t))))]) dX0_termYielded_177 rfl rfl (nI_1 _) (by decide) rfl rfl ?_
          refine aw_goto (npc := 76) dX0_termYielded_180 (by decide) ?_
          refine ih (t + 1) (by omega) (nI t) (N (12 + 1 * (0 + t))) _ _ ?_
          have e9 : tyStp 0 0 0 N t (bs, bc) = (nI t, N (12 + 1 * (0 + t))) := by simp [tyStp, hc2, hc3, hc4, -Nat.one_mul, -Nat.zero_add]
          exact (congrArg (tyM 0 0 0 N m (t + 1)) e9) ▸ hq
set_option maxHeartbeats 4000000 in
set_option maxRecDepth 100000 in
theorem g_tyL001 {X : List Int32} {d rc rs n : Nat} {Q : am_Q} {b : Nat} {N : Nat → Int32} {tx : List Value} {lk mv : Nat → Int32} {h : am_H} {f : Nat} {kd bo : Int32} (F : QR b N tx lk mv h) : ∀ (m t : Nat), t + m = 4 → ∀ (bs bc : Int32) (v10 v11 : Option Value), Q (some (.int (tyM 0 0 4 N m t (bs, bc)).1)) n h → AW X mX0_termYielded (d + 3) rc rs 76 [some (.ref b), some (.int (nI f)), some (.int kd), some (.int 0), some (.int bo), some (.int 0), some (.int 1), some (.int bs), some (.int bc), some (.int (nI t)), v10, v11] [] n h Q := by
  intro m
  induction m with
  | zero =>
    intro t ht bs bc v10 v11 hq
    obtain rfl : t = 4 := by omega
    refine aw_iload (npc := 78) rfl dX0_termYielded_76 rfl ?_
    refine aw_iconst (npc := 79) (v := 4) (by decide) dX0_termYielded_78 rfl ?_
    refine aw_icmp_ge (npc := 82) (tgt := 183) dX0_termYielded_79 rfl (by decide) (fun _ => ?_) (fun hc => absurd (nI_le (a := 4) (b := 4) (by omega) (by omega)) hc)
    refine aw_iload (npc := 185) rfl dX0_termYielded_183 rfl ?_
    refine aw_iret rfl dX0_termYielded_185 ?_
    exact hq
  | succ m ih =>
    intro t ht bs bc v10 v11 hq
    refine aw_iload (npc := 78) rfl dX0_termYielded_76 rfl ?_
    refine aw_iconst (npc := 79) (v := 4) (by decide) dX0_termYielded_78 rfl ?_
    refine aw_icmp_ge (npc := 82) (tgt := 183) dX0_termYielded_79 rfl (by decide) (fun hc => absurd hc (nI_ge (a := t) (b := 4) (by omega) (by omega))) (fun _ => ?_)
    refine aw_iload_n (npc := 83) rfl dX0_termYielded_82 rfl ?_
    refine aw_if_ne (npc := 86) (tgt := 104) dX0_termYielded_83 rfl (by decide) (fun hc => absurd (by decide) hc) (fun _ => ?_)
    refine aw_aload_n (npc := 87) rfl dX0_termYielded_86 rfl ?_
    refine aw_get (npc := 90) dX0_termYielded_87 rfl kf_X0_9 F.1 rfl ?_
    refine aw_iload (npc := 92) rfl dX0_termYielded_90 rfl ?_
    refine aw_iald (npc := 93) (x := N (8 + 1 * t)) (j := t) dX0_termYielded_92 rfl F.2.1 (am_ix_nI (by omega)) (tl_at (by omega)) ?_
    refine aw_if_le (npc := 96) (tgt := 100) dX0_termYielded_93 rfl (by decide) (fun hc2 => ?_) (fun hc2 => ?_)
    · refine aw_iconst (npc := 101) (v := 0) (by decide) dX0_termYielded_100 rfl ?_
      refine aw_goto (npc := 121) dX0_termYielded_101 (by decide) ?_
      refine aw_istore (npc := 123) (L' := [some (.ref b), some (.int (nI f)), some (.int kd), some (.int 0), some (.int bo), some (.int 0), some (.int 1), some (.int bs), some (.int bc), some (.int (nI t)), some (.int 0), v11]) dX0_termYielded_121 rfl (by decide) rfl rfl ?_
      refine aw_aload_n (npc := 124) rfl dX0_termYielded_123 rfl ?_
      refine aw_get (npc := 127) dX0_termYielded_124 rfl kf_X0_15 F.1 rfl ?_
      refine aw_iload (npc := 129) rfl dX0_termYielded_127 rfl ?_
      refine aw_iload (npc := 131) rfl dX0_termYielded_129 rfl ?_
      refine aw_callSN (npc := 134) (N := mX7_carePlace) (mc := 0) (ms := 0) (A := [.int 1, .int (nI t)]) (S := [.ref (b + 2)]) (L0 := [some (.int 1), some (.int (nI t))]) dX0_termYielded_131 rfl km_X7_carePlace kk_X0_87 rfl ⟨rfl, by decide⟩ rfl (Nat.le_of_ble_eq_true rfl) (Nat.zero_add _) (Nat.zero_add _) rfl ?_
      refine aw_iload_n (npc := 1) rfl dX7_carePlace_0 rfl ?_
      refine aw_iconst (npc := 2) (v := 4) (by decide) dX7_carePlace_1 rfl ?_
      refine aw_imulV (npc := 3) (v := 4) dX7_carePlace_2 rfl (by decide) ?_
      refine aw_iload_n (npc := 4) rfl dX7_carePlace_3 rfl ?_
      refine aw_iaddV (npc := 5) (v := nI (4 + t)) dX7_carePlace_4 rfl (nI_add 4 _) ?_
      refine aw_iret rfl dX7_carePlace_5 ?_
      refine aw_re (S' := [.int (nI (4 + t)), .ref (b + 2)]) rfl ?_
      refine aw_iald (npc := 135) (x := N (12 + 1 * (4 + t))) (j := (4 + t)) dX0_termYielded_134 rfl F.2.2.1 (am_ix_nI (by omega)) (tl_at (by omega)) ?_
      refine aw_istore (npc := 137) (L' := [some (.ref b), some (.int (nI f)), some (.int kd), some (.int 0), some (.int bo), some (.int 0), some (.int 1), some (.int bs), some (.int bc), some (.int (nI t)), some (.int 0), some (.int (N (12 + 1 * (4 + t))))]) dX0_termYielded_135 rfl (by decide) rfl rfl ?_
      refine aw_iload (npc := 139) rfl dX0_termYielded_137 rfl ?_
      refine aw_if_eq (npc := 142) (tgt := 177) dX0_termYielded_139 rfl (by decide) (fun _ => ?_) (fun hc => absurd (by decide) hc)
      refine aw_iinc (npc := 180) (v := nI (t + 1)) (L' := [some (.ref b), some (.int (nI f)), some (.int kd), some (.int 0), some (.int bo), some (.int 0), some (.int 1), some (.int bs), some (.int bc), some (.int (nI (t + 1))), some (.int 0), some (.int (N (12 + 1 * (4 + t))))]) dX0_termYielded_177 rfl rfl (nI_1 _) (by decide) rfl rfl ?_
      refine aw_goto (npc := 76) dX0_termYielded_180 (by decide) ?_
      refine ih (t + 1) (by omega) bs bc _ _ ?_
      have e9 : tyStp 0 0 4 N t (bs, bc) = (bs, bc) := by simp [tyStp, hc2, -Nat.one_mul, -Nat.zero_add]
      exact (congrArg (tyM 0 0 4 N m (t + 1)) e9) ▸ hq
    · refine aw_iconst (npc := 97) (v := 1) (by decide) dX0_termYielded_96 rfl ?_
      refine aw_goto (npc := 121) dX0_termYielded_97 (by decide) ?_
      refine aw_istore (npc := 123) (L' := [some (.ref b), some (.int (nI f)), some (.int kd), some (.int 0), some (.int bo), some (.int 0), some (.int 1), some (.int bs), some (.int bc), some (.int (nI t)), some (.int 1), v11]) dX0_termYielded_121 rfl (by decide) rfl rfl ?_
      refine aw_aload_n (npc := 124) rfl dX0_termYielded_123 rfl ?_
      refine aw_get (npc := 127) dX0_termYielded_124 rfl kf_X0_15 F.1 rfl ?_
      refine aw_iload (npc := 129) rfl dX0_termYielded_127 rfl ?_
      refine aw_iload (npc := 131) rfl dX0_termYielded_129 rfl ?_
      refine aw_callSN (npc := 134) (N := mX7_carePlace) (mc := 0) (ms := 0) (A := [.int 1, .int (nI t)]) (S := [.ref (b + 2)]) (L0 := [some (.int 1), some (.int (nI t))]) dX0_termYielded_131 rfl km_X7_carePlace kk_X0_87 rfl ⟨rfl, by decide⟩ rfl (Nat.le_of_ble_eq_true rfl) (Nat.zero_add _) (Nat.zero_add _) rfl ?_
      refine aw_iload_n (npc := 1) rfl dX7_carePlace_0 rfl ?_
      refine aw_iconst (npc := 2) (v := 4) (by decide) dX7_carePlace_1 rfl ?_
      refine aw_imulV (npc := 3) (v := 4) dX7_carePlace_2 rfl (by decide) ?_
      refine aw_iload_n (npc := 4) rfl dX7_carePlace_3 rfl ?_
      refine aw_iaddV (npc := 5) (v := nI (4 + t)) dX7_carePlace_4 rfl (nI_add 4 _) ?_
      refine aw_iret rfl dX7_carePlace_5 ?_
      refine aw_re (S' := [.int (nI (4 + t)), .ref (b + 2)]) rfl ?_
      refine aw_iald (npc := 135) (x := N (12 + 1 * (4 + t))) (j := (4 + t)) dX0_termYielded_134 rfl F.2.2.1 (am_ix_nI (by omega)) (tl_at (by omega)) ?_
      refine aw_istore (npc := 137) (L' := [some (.ref b), some (.int (nI f)), some (.int kd), some (.int 0), some (.int bo), some (.int 0), some (.int 1), some (.int bs), some (.int bc), some (.int (nI t)), some (.int 1), some (.int (N (12 + 1 * (4 + t))))]) dX0_termYielded_135 rfl (by decide) rfl rfl ?_
      refine aw_iload (npc := 139) rfl dX0_termYielded_137 rfl ?_
      refine aw_if_eq (npc := 142) (tgt := 177) dX0_termYielded_139 rfl (by decide) (fun hc => absurd hc (by decide)) (fun _ => ?_)
      refine aw_iload (npc := 144) rfl dX0_termYielded_142 rfl ?_
      refine aw_if_lt (npc := 147) (tgt := 169) dX0_termYielded_144 rfl (by decide) (fun hc3 => ?_) (fun hc3 => ?_)
      · refine aw_iload (npc := 171) rfl dX0_termYielded_169 rfl ?_
        refine aw_istore (npc := 173) (L' := [some (.ref b), some (.int (nI f)), some (.int kd), some (.int 0), some (.int bo), some (.int 0), some (.int 1), some (.int (nI t)), some (.int bc), some (.int (nI t)), some (.int 1), some (.int (N (12 + 1 * (4 + t))))]) dX0_termYielded_171 rfl (by decide) rfl rfl ?_
        refine aw_iload (npc := 175) rfl dX0_termYielded_173 rfl ?_
        refine aw_istore (npc := 177) (L' := [some (.ref b), some (.int (nI f)), some (.int kd), some (.int 0), some (.int bo), some (.int 0), some (.int 1), some (.int (nI t)), some (.int (N (12 + 1 * (4 + t)))), some (.int (nI t)), some (.int 1), some (.int (N (12 + 1 * (4 + t))))]) dX0_termYielded_175 rfl (by decide) rfl rfl ?_
        refine aw_iinc (npc := 180) (v := nI (t + 1)) (L' := [some (.ref b), some (.int (nI f)), some (.int kd), some (.int 0), some (.int bo), some (.int 0), some (.int 1), some (.int (nI t)), some (.int (N (12 + 1 * (4 + t)))), some (.int (nI (t + 1))), some (.int 1), some (.int (N (12 + 1 * (4 + t))))]) dX0_termYielded_177 rfl rfl (nI_1 _) (by decide) rfl rfl ?_
        refine aw_goto (npc := 76) dX0_termYielded_180 (by decide) ?_
        refine ih (t + 1) (by omega) (nI t) (N (12 + 1 * (4 + t))) _ _ ?_
        have e9 : tyStp 0 0 4 N t (bs, bc) = (nI t, N (12 + 1 * (4 + t))) := by simp [tyStp, hc2, hc3, -Nat.one_mul, -Nat.zero_add]
        exact (congrArg (tyM 0 0 4 N m (t + 1)) e9) ▸ hq
      · refine aw_iload (npc := 149) rfl dX0_termYielded_147 rfl ?_
        refine aw_if_eq (npc := 152) (tgt := 162) dX0_termYielded_149 rfl (by decide) (fun _ => ?_) (fun hc => absurd (by decide) hc)
        refine aw_iload (npc := 164) rfl dX0_termYielded_162 rfl ?_
        refine aw_iload (npc := 166) rfl dX0_termYielded_164 rfl ?_
        refine aw_icmp_ge (npc := 169) (tgt := 177) dX0_termYielded_166 rfl (by decide) (fun hc4 => ?_) (fun hc4 => ?_)
        · refine aw_iinc (npc := 180) (v := nI (t + 1)) (L' := [some (.ref b), some (.int (nI f)), some (.int kd), some (.int 0), some (.int bo), some (.int 0), some (.int 1), some (.int bs), some (.int bc), some (.int (nI (t + 1))), some (.int 1), some (.int (N (12 + 1 * (4 + t))))]) dX0_termYielded_177 rfl rfl (nI_1 _) (by decide) rfl rfl ?_
          refine aw_goto (npc := 76) dX0_termYielded_180 (by decide) ?_
          refine ih (t + 1) (by omega) bs bc _ _ ?_
          have e9 : tyStp 0 0 4 N t (bs, bc) = (bs, bc) := by simp [tyStp, hc2, hc3, hc4, -Nat.one_mul, -Nat.zero_add]
          exact (congrArg (tyM 0 0 4 N m (t + 1)) e9) ▸ hq
        · refine aw_iload (npc := 171) rfl dX0_termYielded_169 rfl ?_
          refine aw_istore (npc := 173) (L' := [some (.ref b), some (.int (nI f)), some (.int kd), some (.int 0), some (.int bo), some (.int 0), some (.int 1), some (.int (nI t)), some (.int bc), some (.int (nI t)), some (.int 1), some (.int (N (12 + 1 * (4 + t))))]) dX0_termYielded_171 rfl (by decide) rfl rfl ?_
          refine aw_iload (npc := 175) rfl dX0_termYielded_173 rfl ?_
          refine aw_istore (npc := 177) (L' := [some (.ref b), some (.int (nI f)), some (.int kd), some (.int 0), some (.int bo), some (.int 0), some (.int 1), some (.int (nI t)), some (.int (N (12 + 1 * (4 + t)))), some (.int (nI t)), some (.int 1), some (.int (N (12 + 1 * (4 + t))))]) dX0_termYielded_175 rfl (by decide) rfl rfl ?_
          refine aw_iinc (npc := 180) (v := nI (t + 1)) (L' := [some (.ref b), some (.int (nI f)), some (.int kd), some (.int 0), some (.int bo), some (.int 0), some (.int 1), some (.int (nI t)), some (.int (N (12 + 1 * (4 + t)))), some (.int (nI (t + 1))), some (.int 1), some (.int (N (12 + 1 * (4 + t))))]) dX0_termYielded_177 rfl rfl (nI_1 _) (by decide) rfl rfl ?_
          refine aw_goto (npc := 76) dX0_termYielded_180 (by decide) ?_
          refine ih (t + 1) (by omega) (nI t) (N (12 + 1 * (4 + t))) _ _ ?_
          have e9 : tyStp 0 0 4 N t (bs, bc) = (nI t, N (12 + 1 * (4 + t))) := by simp [tyStp, hc2, hc3, hc4, -Nat.one_mul, -Nat.zero_add]
          exact (congrArg (tyM 0 0 4 N m (t + 1)) e9) ▸ hq
set_option maxHeartbeats 4000000 in
set_option maxRecDepth 100000 in
theorem g_tyL010 {X : List Int32} {d rc rs n : Nat} {Q : am_Q} {b : Nat} {N : Nat → Int32} {tx : List Value} {lk mv : Nat → Int32} {h : am_H} {f : Nat} {kd bo : Int32} (F : QR b N tx lk mv h) : ∀ (m t : Nat), t + m = 4 → ∀ (bs bc : Int32) (v10 v11 : Option Value), Q (some (.int (tyM 0 1 0 N m t (bs, bc)).1)) n h → AW X mX0_termYielded (d + 3) rc rs 76 [some (.ref b), some (.int (nI f)), some (.int kd), some (.int 0), some (.int bo), some (.int 1), some (.int 0), some (.int bs), some (.int bc), some (.int (nI t)), v10, v11] [] n h Q := by
  intro m
  induction m with
  | zero =>
    intro t ht bs bc v10 v11 hq
    obtain rfl : t = 4 := by omega
    refine aw_iload (npc := 78) rfl dX0_termYielded_76 rfl ?_
    refine aw_iconst (npc := 79) (v := 4) (by decide) dX0_termYielded_78 rfl ?_
    refine aw_icmp_ge (npc := 82) (tgt := 183) dX0_termYielded_79 rfl (by decide) (fun _ => ?_) (fun hc => absurd (nI_le (a := 4) (b := 4) (by omega) (by omega)) hc)
    refine aw_iload (npc := 185) rfl dX0_termYielded_183 rfl ?_
    refine aw_iret rfl dX0_termYielded_185 ?_
    exact hq
  | succ m ih =>
    intro t ht bs bc v10 v11 hq
    refine aw_iload (npc := 78) rfl dX0_termYielded_76 rfl ?_
    refine aw_iconst (npc := 79) (v := 4) (by decide) dX0_termYielded_78 rfl ?_
    refine aw_icmp_ge (npc := 82) (tgt := 183) dX0_termYielded_79 rfl (by decide) (fun hc => absurd hc (nI_ge (a := t) (b := 4) (by omega) (by omega))) (fun _ => ?_)
    refine aw_iload_n (npc := 83) rfl dX0_termYielded_82 rfl ?_
    refine aw_if_ne (npc := 86) (tgt := 104) dX0_termYielded_83 rfl (by decide) (fun hc => absurd (by decide) hc) (fun _ => ?_)
    refine aw_aload_n (npc := 87) rfl dX0_termYielded_86 rfl ?_
    refine aw_get (npc := 90) dX0_termYielded_87 rfl kf_X0_9 F.1 rfl ?_
    refine aw_iload (npc := 92) rfl dX0_termYielded_90 rfl ?_
    refine aw_iald (npc := 93) (x := N (8 + 1 * t)) (j := t) dX0_termYielded_92 rfl F.2.1 (am_ix_nI (by omega)) (tl_at (by omega)) ?_
    refine aw_if_le (npc := 96) (tgt := 100) dX0_termYielded_93 rfl (by decide) (fun hc2 => ?_) (fun hc2 => ?_)
    · refine aw_iconst (npc := 101) (v := 0) (by decide) dX0_termYielded_100 rfl ?_
      refine aw_goto (npc := 121) dX0_termYielded_101 (by decide) ?_
      refine aw_istore (npc := 123) (L' := [some (.ref b), some (.int (nI f)), some (.int kd), some (.int 0), some (.int bo), some (.int 1), some (.int 0), some (.int bs), some (.int bc), some (.int (nI t)), some (.int 0), v11]) dX0_termYielded_121 rfl (by decide) rfl rfl ?_
      refine aw_aload_n (npc := 124) rfl dX0_termYielded_123 rfl ?_
      refine aw_get (npc := 127) dX0_termYielded_124 rfl kf_X0_15 F.1 rfl ?_
      refine aw_iload (npc := 129) rfl dX0_termYielded_127 rfl ?_
      refine aw_iload (npc := 131) rfl dX0_termYielded_129 rfl ?_
      refine aw_callSN (npc := 134) (N := mX7_carePlace) (mc := 0) (ms := 0) (A := [.int 0, .int (nI t)]) (S := [.ref (b + 2)]) (L0 := [some (.int 0), some (.int (nI t))]) dX0_termYielded_131 rfl km_X7_carePlace kk_X0_87 rfl ⟨rfl, by decide⟩ rfl (Nat.le_of_ble_eq_true rfl) (Nat.zero_add _) (Nat.zero_add _) rfl ?_
      refine aw_iload_n (npc := 1) rfl dX7_carePlace_0 rfl ?_
      refine aw_iconst (npc := 2) (v := 4) (by decide) dX7_carePlace_1 rfl ?_
      refine aw_imulV (npc := 3) (v := 0) dX7_carePlace_2 rfl (by decide) ?_
      refine aw_iload_n (npc := 4) rfl dX7_carePlace_3 rfl ?_
      refine aw_iaddV (npc := 5) (v := nI (0 + t)) dX7_carePlace_4 rfl (nI_add 0 _) ?_
      refine aw_iret rfl dX7_carePlace_5 ?_
      refine aw_re (S' := [.int (nI (0 + t)), .ref (b + 2)]) rfl ?_
      refine aw_iald (npc := 135) (x := N (12 + 1 * (0 + t))) (j := (0 + t)) dX0_termYielded_134 rfl F.2.2.1 (am_ix_nI (by omega)) (tl_at (by omega)) ?_
      refine aw_istore (npc := 137) (L' := [some (.ref b), some (.int (nI f)), some (.int kd), some (.int 0), some (.int bo), some (.int 1), some (.int 0), some (.int bs), some (.int bc), some (.int (nI t)), some (.int 0), some (.int (N (12 + 1 * (0 + t))))]) dX0_termYielded_135 rfl (by decide) rfl rfl ?_
      refine aw_iload (npc := 139) rfl dX0_termYielded_137 rfl ?_
      refine aw_if_eq (npc := 142) (tgt := 177) dX0_termYielded_139 rfl (by decide) (fun _ => ?_) (fun hc => absurd (by decide) hc)
      refine aw_iinc (npc := 180) (v := nI (t + 1)) (L' := [some (.ref b), some (.int (nI f)), some (.int kd), some (.int 0), some (.int bo), some (.int 1), some (.int 0), some (.int bs), some (.int bc), some (.int (nI (t + 1))), some (.int 0), some (.int (N (12 + 1 * (0 + t))))]) dX0_termYielded_177 rfl rfl (nI_1 _) (by decide) rfl rfl ?_
      refine aw_goto (npc := 76) dX0_termYielded_180 (by decide) ?_
      refine ih (t + 1) (by omega) bs bc _ _ ?_
      have e9 : tyStp 0 1 0 N t (bs, bc) = (bs, bc) := by simp [tyStp, hc2, -Nat.one_mul, -Nat.zero_add]
      exact (congrArg (tyM 0 1 0 N m (t + 1)) e9) ▸ hq
    · refine aw_iconst (npc := 97) (v := 1) (by decide) dX0_termYielded_96 rfl ?_
      refine aw_goto (npc := 121) dX0_termYielded_97 (by decide) ?_
      refine aw_istore (npc := 123) (L' := [some (.ref b), some (.int (nI f)), some (.int kd), some (.int 0), some (.int bo), some (.int 1), some (.int 0), some (.int bs), some (.int bc), some (.int (nI t)), some (.int 1), v11]) dX0_termYielded_121 rfl (by decide) rfl rfl ?_
      refine aw_aload_n (npc := 124) rfl dX0_termYielded_123 rfl ?_
      refine aw_get (npc := 127) dX0_termYielded_124 rfl kf_X0_15 F.1 rfl ?_
      refine aw_iload (npc := 129) rfl dX0_termYielded_127 rfl ?_
      refine aw_iload (npc := 131) rfl dX0_termYielded_129 rfl ?_
      refine aw_callSN (npc := 134) (N := mX7_carePlace) (mc := 0) (ms := 0) (A := [.int 0, .int (nI t)]) (S := [.ref (b + 2)]) (L0 := [some (.int 0), some (.int (nI t))]) dX0_termYielded_131 rfl km_X7_carePlace kk_X0_87 rfl ⟨rfl, by decide⟩ rfl (Nat.le_of_ble_eq_true rfl) (Nat.zero_add _) (Nat.zero_add _) rfl ?_
      refine aw_iload_n (npc := 1) rfl dX7_carePlace_0 rfl ?_
      refine aw_iconst (npc := 2) (v := 4) (by decide) dX7_carePlace_1 rfl ?_
      refine aw_imulV (npc := 3) (v := 0) dX7_carePlace_2 rfl (by decide) ?_
      refine aw_iload_n (npc := 4) rfl dX7_carePlace_3 rfl ?_
      refine aw_iaddV (npc := 5) (v := nI (0 + t)) dX7_carePlace_4 rfl (nI_add 0 _) ?_
      refine aw_iret rfl dX7_carePlace_5 ?_
      refine aw_re (S' := [.int (nI (0 + t)), .ref (b + 2)]) rfl ?_
      refine aw_iald (npc := 135) (x := N (12 + 1 * (0 + t))) (j := (0 + t)) dX0_termYielded_134 rfl F.2.2.1 (am_ix_nI (by omega)) (tl_at (by omega)) ?_
      refine aw_istore (npc := 137) (L' := [some (.ref b), some (.int (nI f)), some (.int kd), some (.int 0), some (.int bo), some (.int 1), some (.int 0), some (.int bs), some (.int bc), some (.int (nI t)), some (.int 1), some (.int (N (12 + 1 * (0 + t))))]) dX0_termYielded_135 rfl (by decide) rfl rfl ?_
      refine aw_iload (npc := 139) rfl dX0_termYielded_137 rfl ?_
      refine aw_if_eq (npc := 142) (tgt := 177) dX0_termYielded_139 rfl (by decide) (fun hc => absurd hc (by decide)) (fun _ => ?_)
      refine aw_iload (npc := 144) rfl dX0_termYielded_142 rfl ?_
      refine aw_if_lt (npc := 147) (tgt := 169) dX0_termYielded_144 rfl (by decide) (fun hc3 => ?_) (fun hc3 => ?_)
      · refine aw_iload (npc := 171) rfl dX0_termYielded_169 rfl ?_
        refine aw_istore (npc := 173) (L' := [some (.ref b), some (.int (nI f)), some (.int kd), some (.int 0), some (.int bo), some (.int 1), some (.int 0), some (.int (nI t)), some (.int bc), some (.int (nI t)), some (.int 1), some (.int (N (12 + 1 * (0 + t))))]) dX0_termYielded_171 rfl (by decide) rfl rfl ?_
        refine aw_iload (npc := 175) rfl dX0_termYielded_173 rfl ?_
        refine aw_istore (npc := 177) (L' := [some (.ref b), some (.int (nI f)), some (.int kd), some (.int 0), some (.int bo), some (.int 1), some (.int 0), some (.int (nI t)), some (.int (N (12 + 1 * (0 + t)))), some (.int (nI t)), some (.int 1), some (.int (N (12 + 1 * (0 + t))))]) dX0_termYielded_175 rfl (by decide) rfl rfl ?_
        refine aw_iinc (npc := 180) (v := nI (t + 1)) (L' := [some (.ref b), some (.int (nI f)), some (.int kd), some (.int 0), some (.int bo), some (.int 1), some (.int 0), some (.int (nI t)), some (.int (N (12 + 1 * (0 + t)))), some (.int (nI (t + 1))), some (.int 1), some (.int (N (12 + 1 * (0 + t))))]) dX0_termYielded_177 rfl rfl (nI_1 _) (by decide) rfl rfl ?_
        refine aw_goto (npc := 76) dX0_termYielded_180 (by decide) ?_
        refine ih (t + 1) (by omega) (nI t) (N (12 + 1 * (0 + t))) _ _ ?_
        have e9 : tyStp 0 1 0 N t (bs, bc) = (nI t, N (12 + 1 * (0 + t))) := by simp [tyStp, hc2, hc3, -Nat.one_mul, -Nat.zero_add]
        exact (congrArg (tyM 0 1 0 N m (t + 1)) e9) ▸ hq
      · refine aw_iload (npc := 149) rfl dX0_termYielded_147 rfl ?_
        refine aw_if_eq (npc := 152) (tgt := 162) dX0_termYielded_149 rfl (by decide) (fun hc => absurd hc (by decide)) (fun _ => ?_)
        refine aw_iload (npc := 154) rfl dX0_termYielded_152 rfl ?_
        refine aw_iload (npc := 156) rfl dX0_termYielded_154 rfl ?_
        refine aw_icmp_le (npc := 159) (tgt := 177) dX0_termYielded_156 rfl (by decide) (fun hc4 => ?_) (fun hc4 => ?_)
        · refine aw_iinc (npc := 180) (v := nI (t + 1)) (L' := [some (.ref b), some (.int (nI f)), some (.int kd), some (.int 0), some (.int bo), some (.int 1), some (.int 0), some (.int bs), some (.int bc), some (.int (nI (t + 1))), some (.int 1), some (.int (N (12 + 1 * (0 + t))))]) dX0_termYielded_177 rfl rfl (nI_1 _) (by decide) rfl rfl ?_
          refine aw_goto (npc := 76) dX0_termYielded_180 (by decide) ?_
          refine ih (t + 1) (by omega) bs bc _ _ ?_
          have e9 : tyStp 0 1 0 N t (bs, bc) = (bs, bc) := by simp [tyStp, hc2, hc3, hc4, -Nat.one_mul, -Nat.zero_add]
          exact (congrArg (tyM 0 1 0 N m (t + 1)) e9) ▸ hq
        · refine aw_goto (npc := 169) dX0_termYielded_159 (by decide) ?_
          refine aw_iload (npc := 171) rfl dX0_termYielded_169 rfl ?_
          refine aw_istore (npc := 173) (L' := [some (.ref b), some (.int (nI f)), some (.int kd), some (.int 0), some (.int bo), some (.int 1), some (.int 0), some (.int (nI t)), some (.int bc), some (.int (nI t)), some (.int 1), some (.int (N (12 + 1 * (0 + t))))]) dX0_termYielded_171 rfl (by decide) rfl rfl ?_
          refine aw_iload (npc := 175) rfl dX0_termYielded_173 rfl ?_
          refine aw_istore (npc := 177) (L' := [some (.ref b), some (.int (nI f)), some (.int kd), some (.int 0), some (.int bo), some (.int 1), some (.int 0), some (.int (nI t)), some (.int (N (12 + 1 * (0 + t)))), some (.int (nI t)), some (.int 1), some (.int (N (12 + 1 * (0 + t))))]) dX0_termYielded_175 rfl (by decide) rfl rfl ?_
          refine aw_iinc (npc := 180) (v := nI (t + 1)) (L' := [some (.ref b), some (.int (nI f)), some (.int kd), some (.int 0), some (.int bo), some (.int 1), some (.int 0), some (.int (nI t)), some (.int (N (12 + 1 * (0 + t)))), some (.int (nI (t + 1))), some (.int 1), some (.int (N (12 + 1 * (0 + t))))]) dX0_termYielded_177 rfl rfl (nI_1 _) (by decide) rfl rfl ?_
          refine aw_goto (npc := 76) dX0_termYielded_180 (by decide) ?_
          refine ih (t + 1) (by omega) (nI t) (N (12 + 1 * (0 + t))) _ _ ?_
          have e9 : tyStp 0 1 0 N t (bs, bc) = (nI t, N (12 + 1 * (0 + t))) := by simp [tyStp, hc2, hc3, hc4, -Nat.one_mul, -Nat.zero_add]
          exact (congrArg (tyM 0 1 0 N m (t + 1)) e9) ▸ hq
set_option maxHeartbeats 4000000 in
set_option maxRecDepth 100000 in
theorem g_tyL011 {X : List Int32} {d rc rs n : Nat} {Q : am_Q} {b : Nat} {N : Nat → Int32} {tx : List Value} {lk mv : Nat → Int32} {h : am_H} {f : Nat} {kd bo : Int32} (F : QR b N tx lk mv h) : ∀ (m t : Nat), t + m = 4 → ∀ (bs bc : Int32) (v10 v11 : Option Value), Q (some (.int (tyM 0 1 4 N m t (bs, bc)).1)) n h → AW X mX0_termYielded (d + 3) rc rs 76 [some (.ref b), some (.int (nI f)), some (.int kd), some (.int 0), some (.int bo), some (.int 1), some (.int 1), some (.int bs), some (.int bc), some (.int (nI t)), v10, v11] [] n h Q := by
  intro m
  induction m with
  | zero =>
    intro t ht bs bc v10 v11 hq
    obtain rfl : t = 4 := by omega
    refine aw_iload (npc := 78) rfl dX0_termYielded_76 rfl ?_
    refine aw_iconst (npc := 79) (v := 4) (by decide) dX0_termYielded_78 rfl ?_
    refine aw_icmp_ge (npc := 82) (tgt := 183) dX0_termYielded_79 rfl (by decide) (fun _ => ?_) (fun hc => absurd (nI_le (a := 4) (b := 4) (by omega) (by omega)) hc)
    refine aw_iload (npc := 185) rfl dX0_termYielded_183 rfl ?_
    refine aw_iret rfl dX0_termYielded_185 ?_
    exact hq
  | succ m ih =>
    intro t ht bs bc v10 v11 hq
    refine aw_iload (npc := 78) rfl dX0_termYielded_76 rfl ?_
    refine aw_iconst (npc := 79) (v := 4) (by decide) dX0_termYielded_78 rfl ?_
    refine aw_icmp_ge (npc := 82) (tgt := 183) dX0_termYielded_79 rfl (by decide) (fun hc => absurd hc (nI_ge (a := t) (b := 4) (by omega) (by omega))) (fun _ => ?_)
    refine aw_iload_n (npc := 83) rfl dX0_termYielded_82 rfl ?_
    refine aw_if_ne (npc := 86) (tgt := 104) dX0_termYielded_83 rfl (by decide) (fun hc => absurd (by decide) hc) (fun _ => ?_)
    refine aw_aload_n (npc := 87) rfl dX0_termYielded_86 rfl ?_
    refine aw_get (npc := 90) dX0_termYielded_87 rfl kf_X0_9 F.1 rfl ?_
    refine aw_iload (npc := 92) rfl dX0_termYielded_90 rfl ?_
    refine aw_iald (npc := 93) (x := N (8 + 1 * t)) (j := t) dX0_termYielded_92 rfl F.2.1 (am_ix_nI (by omega)) (tl_at (by omega)) ?_
    refine aw_if_le (npc := 96) (tgt := 100) dX0_termYielded_93 rfl (by decide) (fun hc2 => ?_) (fun hc2 => ?_)
    · refine aw_iconst (npc := 101) (v := 0) (by decide) dX0_termYielded_100 rfl ?_
      refine aw_goto (npc := 121) dX0_termYielded_101 (by decide) ?_
      refine aw_istore (npc := 123) (L' := [some (.ref b), some (.int (nI f)), some (.int kd), some (.int 0), some (.int bo), some (.int 1), some (.int 1), some (.int bs), some (.int bc), some (.int (nI t)), some (.int 0), v11]) dX0_termYielded_121 rfl (by decide) rfl rfl ?_
      refine aw_aload_n (npc := 124) rfl dX0_termYielded_123 rfl ?_
      refine aw_get (npc := 127) dX0_termYielded_124 rfl kf_X0_15 F.1 rfl ?_
      refine aw_iload (npc := 129) rfl dX0_termYielded_127 rfl ?_
      refine aw_iload (npc := 131) rfl dX0_termYielded_129 rfl ?_
      refine aw_callSN (npc := 134) (N := mX7_carePlace) (mc := 0) (ms := 0) (A := [.int 1, .int (nI t)]) (S := [.ref (b + 2)]) (L0 := [some (.int 1), some (.int (nI t))]) dX0_termYielded_131 rfl km_X7_carePlace kk_X0_87 rfl ⟨rfl, by decide⟩ rfl (Nat.le_of_ble_eq_true rfl) (Nat.zero_add _) (Nat.zero_add _) rfl ?_
      refine aw_iload_n (npc := 1) rfl dX7_carePlace_0 rfl ?_
      refine aw_iconst (npc := 2) (v := 4) (by decide) dX7_carePlace_1 rfl ?_
      refine aw_imulV (npc := 3) (v := 4) dX7_carePlace_2 rfl (by decide) ?_
      refine aw_iload_n (npc := 4) rfl dX7_carePlace_3 rfl ?_
      refine aw_iaddV (npc := 5) (v := nI (4 + t)) dX7_carePlace_4 rfl (nI_add 4 _) ?_
      refine aw_iret rfl dX7_carePlace_5 ?_
      refine aw_re (S' := [.int (nI (4 + t)), .ref (b + 2)]) rfl ?_
      refine aw_iald (npc := 135) (x := N (12 + 1 * (4 + t))) (j := (4 + t)) dX0_termYielded_134 rfl F.2.2.1 (am_ix_nI (by omega)) (tl_at (by omega)) ?_
      refine aw_istore (npc := 137) (L' := [some (.ref b), some (.int (nI f)), some (.int kd), some (.int 0), some (.int bo), some (.int 1), some (.int 1), some (.int bs), some (.int bc), some (.int (nI t)), some (.int 0), some (.int (N (12 + 1 * (4 + t))))]) dX0_termYielded_135 rfl (by decide) rfl rfl ?_
      refine aw_iload (npc := 139) rfl dX0_termYielded_137 rfl ?_
      refine aw_if_eq (npc := 142) (tgt := 177) dX0_termYielded_139 rfl (by decide) (fun _ => ?_) (fun hc => absurd (by decide) hc)
      refine aw_iinc (npc := 180) (v := nI (t + 1)) (L' := [some (.ref b), some (.int (nI f)), some (.int kd), some (.int 0), some (.int bo), some (.int 1), some (.int 1), some (.int bs), some (.int bc), some (.int (nI (t + 1))), some (.int 0), some (.int (N (12 + 1 * (4 + t))))]) dX0_termYielded_177 rfl rfl (nI_1 _) (by decide) rfl rfl ?_
      refine aw_goto (npc := 76) dX0_termYielded_180 (by decide) ?_
      refine ih (t + 1) (by omega) bs bc _ _ ?_
      have e9 : tyStp 0 1 4 N t (bs, bc) = (bs, bc) := by simp [tyStp, hc2, -Nat.one_mul, -Nat.zero_add]
      exact (congrArg (tyM 0 1 4 N m (t + 1)) e9) ▸ hq
    · refine aw_iconst (npc := 97) (v := 1) (by decide) dX0_termYielded_96 rfl ?_
      refine aw_goto (npc := 121) dX0_termYielded_97 (by decide) ?_
      refine aw_istore (npc := 123) (L' := [some (.ref b), some (.int (nI f)), some (.int kd), some (.int 0), some (.int bo), some (.int 1), some (.int 1), some (.int bs), some (.int bc), some (.int (nI t)), some (.int 1), v11]) dX0_termYielded_121 rfl (by decide) rfl rfl ?_
      refine aw_aload_n (npc := 124) rfl dX0_termYielded_123 rfl ?_
      refine aw_get (npc := 127) dX0_termYielded_124 rfl kf_X0_15 F.1 rfl ?_
      refine aw_iload (npc := 129) rfl dX0_termYielded_127 rfl ?_
      refine aw_iload (npc := 131) rfl dX0_termYielded_129 rfl ?_
      refine aw_callSN (npc := 134) (N := mX7_carePlace) (mc := 0) (ms := 0) (A := [.int 1, .int (nI t)]) (S := [.ref (b + 2)]) (L0 := [some (.int 1), some (.int (nI t))]) dX0_termYielded_131 rfl km_X7_carePlace kk_X0_87 rfl ⟨rfl, by decide⟩ rfl (Nat.le_of_ble_eq_true rfl) (Nat.zero_add _) (Nat.zero_add _) rfl ?_
      refine aw_iload_n (npc := 1) rfl dX7_carePlace_0 rfl ?_
      refine aw_iconst (npc := 2) (v := 4) (by decide) dX7_carePlace_1 rfl ?_
      refine aw_imulV (npc := 3) (v := 4) dX7_carePlace_2 rfl (by decide) ?_
      refine aw_iload_n (npc := 4) rfl dX7_carePlace_3 rfl ?_
      refine aw_iaddV (npc := 5) (v := nI (4 + t)) dX7_carePlace_4 rfl (nI_add 4 _) ?_
      refine aw_iret rfl dX7_carePlace_5 ?_
      refine aw_re (S' := [.int (nI (4 + t)), .ref (b + 2)]) rfl ?_
      refine aw_iald (npc := 135) (x := N (12 + 1 * (4 + t))) (j := (4 + t)) dX0_termYielded_134 rfl F.2.2.1 (am_ix_nI (by omega)) (tl_at (by omega)) ?_
      refine aw_istore (npc := 137) (L' := [some (.ref b), some (.int (nI f)), some (.int kd), some (.int 0), some (.int bo), some (.int 1), some (.int 1), some (.int bs), some (.int bc), some (.int (nI t)), some (.int 1), some (.int (N (12 + 1 * (4 + t))))]) dX0_termYielded_135 rfl (by decide) rfl rfl ?_
      refine aw_iload (npc := 139) rfl dX0_termYielded_137 rfl ?_
      refine aw_if_eq (npc := 142) (tgt := 177) dX0_termYielded_139 rfl (by decide) (fun hc => absurd hc (by decide)) (fun _ => ?_)
      refine aw_iload (npc := 144) rfl dX0_termYielded_142 rfl ?_
      refine aw_if_lt (npc := 147) (tgt := 169) dX0_termYielded_144 rfl (by decide) (fun hc3 => ?_) (fun hc3 => ?_)
      · refine aw_iload (npc := 171) rfl dX0_termYielded_169 rfl ?_
        refine aw_istore (npc := 173) (L' := [some (.ref b), some (.int (nI f)), some (.int kd), some (.int 0), some (.int bo), some (.int 1), some (.int 1), some (.int (nI t)), some (.int bc), some (.int (nI t)), some (.int 1), some (.int (N (12 + 1 * (4 + t))))]) dX0_termYielded_171 rfl (by decide) rfl rfl ?_
        refine aw_iload (npc := 175) rfl dX0_termYielded_173 rfl ?_
        refine aw_istore (npc := 177) (L' := [some (.ref b), some (.int (nI f)), some (.int kd), some (.int 0), some (.int bo), some (.int 1), some (.int 1), some (.int (nI t)), some (.int (N (12 + 1 * (4 + t)))), some (.int (nI t)), some (.int 1), some (.int (N (12 + 1 * (4 + t))))]) dX0_termYielded_175 rfl (by decide) rfl rfl ?_
        refine aw_iinc (npc := 180) (v := nI (t + 1)) (L' := [some (.ref b), some (.int (nI f)), some (.int kd), some (.int 0), some (.int bo), some (.int 1), some (.int 1), some (.int (nI t)), some (.int (N (12 + 1 * (4 + t)))), some (.int (nI (t + 1))), some (.int 1), some (.int (N (12 + 1 * (4 + t))))]) dX0_termYielded_177 rfl rfl (nI_1 _) (by decide) rfl rfl ?_
        refine aw_goto (npc := 76) dX0_termYielded_180 (by decide) ?_
        refine ih (t + 1) (by omega) (nI t) (N (12 + 1 * (4 + t))) _ _ ?_
        have e9 : tyStp 0 1 4 N t (bs, bc) = (nI t, N (12 + 1 * (4 + t))) := by simp [tyStp, hc2, hc3, -Nat.one_mul, -Nat.zero_add]
        exact (congrArg (tyM 0 1 4 N m (t + 1)) e9) ▸ hq
      · refine aw_iload (npc := 149) rfl dX0_termYielded_147 rfl ?_
        refine aw_if_eq (npc := 152) (tgt := 162) dX0_termYielded_149 rfl (by decide) (fun hc => absurd hc (by decide)) (fun _ => ?_)
        refine aw_iload (npc := 154) rfl dX0_termYielded_152 rfl ?_
        refine aw_iload (npc := 156) rfl dX0_termYielded_154 rfl ?_
        refine aw_icmp_le (npc := 159) (tgt := 177) dX0_termYielded_156 rfl (by decide) (fun hc4 => ?_) (fun hc4 => ?_)
        · refine aw_iinc (npc := 180) (v := nI (t + 1)) (L' := [some (.ref b), some (.int (nI f)), some (.int kd), some (.int 0), some (.int bo), some (.int 1), some (.int 1), some (.int bs), some (.int bc), some (.int (nI (t + 1))), some (.int 1), some (.int (N (12 + 1 * (4 + t))))]) dX0_termYielded_177 rfl rfl (nI_1 _) (by decide) rfl rfl ?_
          refine aw_goto (npc := 76) dX0_termYielded_180 (by decide) ?_
          refine ih (t + 1) (by omega) bs bc _ _ ?_
          have e9 : tyStp 0 1 4 N t (bs, bc) = (bs, bc) := by simp [tyStp, hc2, hc3, hc4, -Nat.one_mul, -Nat.zero_add]
          exact (congrArg (tyM 0 1 4 N m (t + 1)) e9) ▸ hq
        · refine aw_goto (npc := 169) dX0_termYielded_159 (by decide) ?_
          refine aw_iload (npc := 171) rfl dX0_termYielded_169 rfl ?_
          refine aw_istore (npc := 173) (L' := [some (.ref b), some (.int (nI f)), some (.int kd), some (.int 0), some (.int bo), some (.int 1), some (.int 1), some (.int (nI t)), some (.int bc), some (.int (nI t)), some (.int 1), some (.int (N (12 + 1 * (4 + t))))]) dX0_termYielded_171 rfl (by decide) rfl rfl ?_
          refine aw_iload (npc := 175) rfl dX0_termYielded_173 rfl ?_
          refine aw_istore (npc := 177) (L' := [some (.ref b), some (.int (nI f)), some (.int kd), some (.int 0), some (.int bo), some (.int 1), some (.int 1), some (.int (nI t)), some (.int (N (12 + 1 * (4 + t)))), some (.int (nI t)), some (.int 1), some (.int (N (12 + 1 * (4 + t))))]) dX0_termYielded_175 rfl (by decide) rfl rfl ?_
          refine aw_iinc (npc := 180) (v := nI (t + 1)) (L' := [some (.ref b), some (.int (nI f)), some (.int kd), some (.int 0), some (.int bo), some (.int 1), some (.int 1), some (.int (nI t)), some (.int (N (12 + 1 * (4 + t)))), some (.int (nI (t + 1))), some (.int 1), some (.int (N (12 + 1 * (4 + t))))]) dX0_termYielded_177 rfl rfl (nI_1 _) (by decide) rfl rfl ?_
          refine aw_goto (npc := 76) dX0_termYielded_180 (by decide) ?_
          refine ih (t + 1) (by omega) (nI t) (N (12 + 1 * (4 + t))) _ _ ?_
          have e9 : tyStp 0 1 4 N t (bs, bc) = (nI t, N (12 + 1 * (4 + t))) := by simp [tyStp, hc2, hc3, hc4, -Nat.one_mul, -Nat.zero_add]
          exact (congrArg (tyM 0 1 4 N m (t + 1)) e9) ▸ hq
set_option maxHeartbeats 4000000 in
set_option maxRecDepth 100000 in
theorem g_tyL100 {X : List Int32} {d rc rs n : Nat} {Q : am_Q} {b : Nat} {N : Nat → Int32} {tx : List Value} {lk mv : Nat → Int32} {h : am_H} {f : Nat} {kd bo : Int32} (F : QR b N tx lk mv h) : ∀ (m t : Nat), t + m = 4 → ∀ (bs bc : Int32) (v10 v11 : Option Value), Q (some (.int (tyM 1 0 0 N m t (bs, bc)).1)) n h → AW X mX0_termYielded (d + 3) rc rs 76 [some (.ref b), some (.int (nI f)), some (.int kd), some (.int 1), some (.int bo), some (.int 0), some (.int 0), some (.int bs), some (.int bc), some (.int (nI t)), v10, v11] [] n h Q := by
  intro m
  induction m with
  | zero =>
    intro t ht bs bc v10 v11 hq
    obtain rfl : t = 4 := by omega
    refine aw_iload (npc := 78) rfl dX0_termYielded_76 rfl ?_
    refine aw_iconst (npc := 79) (v := 4) (by decide) dX0_termYielded_78 rfl ?_
    refine aw_icmp_ge (npc := 82) (tgt := 183) dX0_termYielded_79 rfl (by decide) (fun _ => ?_) (fun hc => absurd (nI_le (a := 4) (b := 4) (by omega) (by omega)) hc)
    refine aw_iload (npc := 185) rfl dX0_termYielded_183 rfl ?_
    refine aw_iret rfl dX0_termYielded_185 ?_
    exact hq
  | succ m ih =>
    intro t ht bs bc v10 v11 hq
    refine aw_iload (npc := 78) rfl dX0_termYielded_76 rfl ?_
    refine aw_iconst (npc := 79) (v := 4) (by decide) dX0_termYielded_78 rfl ?_
    refine aw_icmp_ge (npc := 82) (tgt := 183) dX0_termYielded_79 rfl (by decide) (fun hc => absurd hc (nI_ge (a := t) (b := 4) (by omega) (by omega))) (fun _ => ?_)
    refine aw_iload_n (npc := 83) rfl dX0_termYielded_82 rfl ?_
    refine aw_if_ne (npc := 86) (tgt := 104) dX0_termYielded_83 rfl (by decide) (fun _ => ?_) (fun hc => absurd hc (by decide))
    refine aw_aload_n (npc := 105) rfl dX0_termYielded_104 rfl ?_
    refine aw_get (npc := 108) dX0_termYielded_105 rfl kf_X0_9 F.1 rfl ?_
    refine aw_iload (npc := 110) rfl dX0_termYielded_108 rfl ?_
    refine aw_iald (npc := 111) (x := N (8 + 1 * t)) (j := t) dX0_termYielded_110 rfl F.2.1 (am_ix_nI (by omega)) (tl_at (by omega)) ?_
    refine aw_bipush (npc := 113) (v := 9) (by decide) dX0_termYielded_111 rfl ?_
    refine aw_icmp_ge (npc := 116) (tgt := 120) dX0_termYielded_113 rfl (by decide) (fun hc2 => ?_) (fun hc2 => ?_)
    · refine aw_iconst (npc := 121) (v := 0) (by decide) dX0_termYielded_120 rfl ?_
      refine aw_istore (npc := 123) (L' := [some (.ref b), some (.int (nI f)), some (.int kd), some (.int 1), some (.int bo), some (.int 0), some (.int 0), some (.int bs), some (.int bc), some (.int (nI t)), some (.int 0), v11]) dX0_termYielded_121 rfl (by decide) rfl rfl ?_
      refine aw_aload_n (npc := 124) rfl dX0_termYielded_123 rfl ?_
      refine aw_get (npc := 127) dX0_termYielded_124 rfl kf_X0_15 F.1 rfl ?_
      refine aw_iload (npc := 129) rfl dX0_termYielded_127 rfl ?_
      refine aw_iload (npc := 131) rfl dX0_termYielded_129 rfl ?_
      refine aw_callSN (npc := 134) (N := mX7_carePlace) (mc := 0) (ms := 0) (A := [.int 0, .int (nI t)]) (S := [.ref (b + 2)]) (L0 := [some (.int 0), some (.int (nI t))]) dX0_termYielded_131 rfl km_X7_carePlace kk_X0_87 rfl ⟨rfl, by decide⟩ rfl (Nat.le_of_ble_eq_true rfl) (Nat.zero_add _) (Nat.zero_add _) rfl ?_
      refine aw_iload_n (npc := 1) rfl dX7_carePlace_0 rfl ?_
      refine aw_iconst (npc := 2) (v := 4) (by decide) dX7_carePlace_1 rfl ?_
      refine aw_imulV (npc := 3) (v := 0) dX7_carePlace_2 rfl (by decide) ?_
      refine aw_iload_n (npc := 4) rfl dX7_carePlace_3 rfl ?_
      refine aw_iaddV (npc := 5) (v := nI (0 + t)) dX7_carePlace_4 rfl (nI_add 0 _) ?_
      refine aw_iret rfl dX7_carePlace_5 ?_
      refine aw_re (S' := [.int (nI (0 + t)), .ref (b + 2)]) rfl ?_
      refine aw_iald (npc := 135) (x := N (12 + 1 * (0 + t))) (j := (0 + t)) dX0_termYielded_134 rfl F.2.2.1 (am_ix_nI (by omega)) (tl_at (by omega)) ?_
      refine aw_istore (npc := 137) (L' := [some (.ref b), some (.int (nI f)), some (.int kd), some (.int 1), some (.int bo), some (.int 0), some (.int 0), some (.int bs), some (.int bc), some (.int (nI t)), some (.int 0), some (.int (N (12 + 1 * (0 + t))))]) dX0_termYielded_135 rfl (by decide) rfl rfl ?_
      refine aw_iload (npc := 139) rfl dX0_termYielded_137 rfl ?_
      refine aw_if_eq (npc := 142) (tgt := 177) dX0_termYielded_139 rfl (by decide) (fun _ => ?_) (fun hc => absurd (by decide) hc)
      refine aw_iinc (npc := 180) (v := nI (t + 1)) (L' := [some (.ref b), some (.int (nI f)), some (.int kd), some (.int 1), some (.int bo), some (.int 0), some (.int 0), some (.int bs), some (.int bc), some (.int (nI (t + 1))), some (.int 0), some (.int (N (12 + 1 * (0 + t))))]) dX0_termYielded_177 rfl rfl (nI_1 _) (by decide) rfl rfl ?_
      refine aw_goto (npc := 76) dX0_termYielded_180 (by decide) ?_
      refine ih (t + 1) (by omega) bs bc _ _ ?_
      have e9 : tyStp 1 0 0 N t (bs, bc) = (bs, bc) := by simp [tyStp, hc2, -Nat.one_mul, -Nat.zero_add]
      exact (congrArg (tyM 1 0 0 N m (t + 1)) e9) ▸ hq
    · refine aw_iconst (npc := 117) (v := 1) (by decide) dX0_termYielded_116 rfl ?_
      refine aw_goto (npc := 121) dX0_termYielded_117 (by decide) ?_
      refine aw_istore (npc := 123) (L' := [some (.ref b), some (.int (nI f)), some (.int kd), some (.int 1), some (.int bo), some (.int 0), some (.int 0), some (.int bs), some (.int bc), some (.int (nI t)), some (.int 1), v11]) dX0_termYielded_121 rfl (by decide) rfl rfl ?_
      refine aw_aload_n (npc := 124) rfl dX0_termYielded_123 rfl ?_
      refine aw_get (npc := 127) dX0_termYielded_124 rfl kf_X0_15 F.1 rfl ?_
      refine aw_iload (npc := 129) rfl dX0_termYielded_127 rfl ?_
      refine aw_iload (npc := 131) rfl dX0_termYielded_129 rfl ?_
      refine aw_callSN (npc := 134) (N := mX7_carePlace) (mc := 0) (ms := 0) (A := [.int 0, .int (nI t)]) (S := [.ref (b + 2)]) (L0 := [some (.int 0), some (.int (nI t))]) dX0_termYielded_131 rfl km_X7_carePlace kk_X0_87 rfl ⟨rfl, by decide⟩ rfl (Nat.le_of_ble_eq_true rfl) (Nat.zero_add _) (Nat.zero_add _) rfl ?_
      refine aw_iload_n (npc := 1) rfl dX7_carePlace_0 rfl ?_
      refine aw_iconst (npc := 2) (v := 4) (by decide) dX7_carePlace_1 rfl ?_
      refine aw_imulV (npc := 3) (v := 0) dX7_carePlace_2 rfl (by decide) ?_
      refine aw_iload_n (npc := 4) rfl dX7_carePlace_3 rfl ?_
      refine aw_iaddV (npc := 5) (v := nI (0 + t)) dX7_carePlace_4 rfl (nI_add 0 _) ?_
      refine aw_iret rfl dX7_carePlace_5 ?_
      refine aw_re (S' := [.int (nI (0 + t)), .ref (b + 2)]) rfl ?_
      refine aw_iald (npc := 135) (x := N (12 + 1 * (0 + t))) (j := (0 + t)) dX0_termYielded_134 rfl F.2.2.1 (am_ix_nI (by omega)) (tl_at (by omega)) ?_
      refine aw_istore (npc := 137) (L' := [some (.ref b), some (.int (nI f)), some (.int kd), some (.int 1), some (.int bo), some (.int 0), some (.int 0), some (.int bs), some (.int bc), some (.int (nI t)), some (.int 1), some (.int (N (12 + 1 * (0 + t))))]) dX0_termYielded_135 rfl (by decide) rfl rfl ?_
      refine aw_iload (npc := 139) rfl dX0_termYielded_137 rfl ?_
      refine aw_if_eq (npc := 142) (tgt := 177) dX0_termYielded_139 rfl (by decide) (fun hc => absurd hc (by decide)) (fun _ => ?_)
      refine aw_iload (npc := 144) rfl dX0_termYielded_142 rfl ?_
      refine aw_if_lt (npc := 147) (tgt := 169) dX0_termYielded_144 rfl (by decide) (fun hc3 => ?_) (fun hc3 => ?_)
      · refine aw_iload (npc := 171) rfl dX0_termYielded_169 rfl ?_
        refine aw_istore (npc := 173) (L' := [some (.ref b), some (.int (nI f)), some (.int kd), some (.int 1), some (.int bo), some (.int 0), some (.int 0), some (.int (nI t)), some (.int bc), some (.int (nI t)), some (.int 1), some (.int (N (12 + 1 * (0 + t))))]) dX0_termYielded_171 rfl (by decide) rfl rfl ?_
        refine aw_iload (npc := 175) rfl dX0_termYielded_173 rfl ?_
        refine aw_istore (npc := 177) (L' := [some (.ref b), some (.int (nI f)), some (.int kd), some (.int 1), some (.int bo), some (.int 0), some (.int 0), some (.int (nI t)), some (.int (N (12 + 1 * (0 + t)))), some (.int (nI t)), some (.int 1), some (.int (N (12 + 1 * (0 + t))))]) dX0_termYielded_175 rfl (by decide) rfl rfl ?_
        refine aw_iinc (npc := 180) (v := nI (t + 1)) (L' := [some (.ref b), some (.int (nI f)), some (.int kd), some (.int 1), some (.int bo), some (.int 0), some (.int 0), some (.int (nI t)), some (.int (N (12 + 1 * (0 + t)))), some (.int (nI (t + 1))), some (.int 1), some (.int (N (12 + 1 * (0 + t))))]) dX0_termYielded_177 rfl rfl (nI_1 _) (by decide) rfl rfl ?_
        refine aw_goto (npc := 76) dX0_termYielded_180 (by decide) ?_
        refine ih (t + 1) (by omega) (nI t) (N (12 + 1 * (0 + t))) _ _ ?_
        have e9 : tyStp 1 0 0 N t (bs, bc) = (nI t, N (12 + 1 * (0 + t))) := by simp [tyStp, hc2, hc3, -Nat.one_mul, -Nat.zero_add]
        exact (congrArg (tyM 1 0 0 N m (t + 1)) e9) ▸ hq
      · refine aw_iload (npc := 149) rfl dX0_termYielded_147 rfl ?_
        refine aw_if_eq (npc := 152) (tgt := 162) dX0_termYielded_149 rfl (by decide) (fun _ => ?_) (fun hc => absurd (by decide) hc)
        refine aw_iload (npc := 164) rfl dX0_termYielded_162 rfl ?_
        refine aw_iload (npc := 166) rfl dX0_termYielded_164 rfl ?_
        refine aw_icmp_ge (npc := 169) (tgt := 177) dX0_termYielded_166 rfl (by decide) (fun hc4 => ?_) (fun hc4 => ?_)
        · refine aw_iinc (npc := 180) (v := nI (t + 1)) (L' := [some (.ref b), some (.int (nI f)), some (.int kd), some (.int 1), some (.int bo), some (.int 0), some (.int 0), some (.int bs), some (.int bc), some (.int (nI (t + 1))), some (.int 1), some (.int (N (12 + 1 * (0 + t))))]) dX0_termYielded_177 rfl rfl (nI_1 _) (by decide) rfl rfl ?_
          refine aw_goto (npc := 76) dX0_termYielded_180 (by decide) ?_
          refine ih (t + 1) (by omega) bs bc _ _ ?_
          have e9 : tyStp 1 0 0 N t (bs, bc) = (bs, bc) := by simp [tyStp, hc2, hc3, hc4, -Nat.one_mul, -Nat.zero_add]
          exact (congrArg (tyM 1 0 0 N m (t + 1)) e9) ▸ hq
        · refine aw_iload (npc := 171) rfl dX0_termYielded_169 rfl ?_
          refine aw_istore (npc := 173) (L' := [some (.ref b), some (.int (nI f)), some (.int kd), some (.int 1), some (.int bo), some (.int 0), some (.int 0), some (.int (nI t)), some (.int bc), some (.int (nI t)), some (.int 1), some (.int (N (12 + 1 * (0 + t))))]) dX0_termYielded_171 rfl (by decide) rfl rfl ?_
          refine aw_iload (npc := 175) rfl dX0_termYielded_173 rfl ?_
          refine aw_istore (npc := 177) (L' := [some (.ref b), some (.int (nI f)), some (.int kd), some (.int 1), some (.int bo), some (.int 0), some (.int 0), some (.int (nI t)), some (.int (N (12 + 1 * (0 + t)))), some (.int (nI t)), some (.int 1), some (.int (N (12 + 1 * (0 + t))))]) dX0_termYielded_175 rfl (by decide) rfl rfl ?_
          refine aw_iinc (npc := 180) (v := nI (t + 1)) (L' := [some (.ref b), some (.int (nI f)), some (.int kd), some (.int 1), some (.int bo), some (.int 0), some (.int 0), some (.int (nI t)), some (.int (N (12 + 1 * (0 + t)))), some (.int (nI (t + 1))), some (.int 1), some (.int (N (12 + 1 * (0 + t))))]) dX0_termYielded_177 rfl rfl (nI_1 _) (by decide) rfl rfl ?_
          refine aw_goto (npc := 76) dX0_termYielded_180 (by decide) ?_
          refine ih (t + 1) (by omega) (nI t) (N (12 + 1 * (0 + t))) _ _ ?_
          have e9 : tyStp 1 0 0 N t (bs, bc) = (nI t, N (12 + 1 * (0 + t))) := by simp [tyStp, hc2, hc3, hc4, -Nat.one_mul, -Nat.zero_add]
          exact (congrArg (tyM 1 0 0 N m (t + 1)) e9) ▸ hq
set_option maxHeartbeats 4000000 in
set_option maxRecDepth 100000 in
theorem g_tyL101 {X : List Int32} {d rc rs n : Nat} {Q : am_Q} {b : Nat} {N : Nat → Int32} {tx : List Value} {lk mv : Nat → Int32} {h : am_H} {f : Nat} {kd bo : Int32} (F : QR b N tx lk mv h) : ∀ (m t : Nat), t + m = 4 → ∀ (bs bc : Int32) (v10 v11 : Option Value), Q (some (.int (tyM 1 0 4 N m t (bs, bc)).1)) n h → AW X mX0_termYielded (d + 3) rc rs 76 [some (.ref b), some (.int (nI f)), some (.int kd), some (.int 1), some (.int bo), some (.int 0), some (.int 1), some (.int bs), some (.int bc), some (.int (nI t)), v10, v11] [] n h Q := by
  intro m
  induction m with
  | zero =>
    intro t ht bs bc v10 v11 hq
    obtain rfl : t = 4 := by omega
    refine aw_iload (npc := 78) rfl dX0_termYielded_76 rfl ?_
    refine aw_iconst (npc := 79) (v := 4) (by decide) dX0_termYielded_78 rfl ?_
    refine aw_icmp_ge (npc := 82) (tgt := 183) dX0_termYielded_79 rfl (by decide) (fun _ => ?_) (fun hc => absurd (nI_le (a := 4) (b := 4) (by omega) (by omega)) hc)
    refine aw_iload (npc := 185) rfl dX0_termYielded_183 rfl ?_
    refine aw_iret rfl dX0_termYielded_185 ?_
    exact hq
  | succ m ih =>
    intro t ht bs bc v10 v11 hq
    refine aw_iload (npc := 78) rfl dX0_termYielded_76 rfl ?_
    refine aw_iconst (npc := 79) (v := 4) (by decide) dX0_termYielded_78 rfl ?_
    refine aw_icmp_ge (npc := 82) (tgt := 183) dX0_termYielded_79 rfl (by decide) (fun hc => absurd hc (nI_ge (a := t) (b := 4) (by omega) (by omega))) (fun _ => ?_)
    refine aw_iload_n (npc := 83) rfl dX0_termYielded_82 rfl ?_
    refine aw_if_ne (npc := 86) (tgt := 104) dX0_termYielded_83 rfl (by decide) (fun _ => ?_) (fun hc => absurd hc (by decide))
    refine aw_aload_n (npc := 105) rfl dX0_termYielded_104 rfl ?_
    refine aw_get (npc := 108) dX0_termYielded_105 rfl kf_X0_9 F.1 rfl ?_
    refine aw_iload (npc := 110) rfl dX0_termYielded_108 rfl ?_
    refine aw_iald (npc := 111) (x := N (8 + 1 * t)) (j := t) dX0_termYielded_110 rfl F.2.1 (am_ix_nI (by omega)) (tl_at (by omega)) ?_
    refine aw_bipush (npc := 113) (v := 9) (by decide) dX0_termYielded_111 rfl ?_
    refine aw_icmp_ge (npc := 116) (tgt := 120) dX0_termYielded_113 rfl (by decide) (fun hc2 => ?_) (fun hc2 => ?_)
    · refine aw_iconst (npc := 121) (v := 0) (by decide) dX0_termYielded_120 rfl ?_
      refine aw_istore (npc := 123) (L' := [some (.ref b), some (.int (nI f)), some (.int kd), some (.int 1), some (.int bo), some (.int 0), some (.int 1), some (.int bs), some (.int bc), some (.int (nI t)), some (.int 0), v11]) dX0_termYielded_121 rfl (by decide) rfl rfl ?_
      refine aw_aload_n (npc := 124) rfl dX0_termYielded_123 rfl ?_
      refine aw_get (npc := 127) dX0_termYielded_124 rfl kf_X0_15 F.1 rfl ?_
      refine aw_iload (npc := 129) rfl dX0_termYielded_127 rfl ?_
      refine aw_iload (npc := 131) rfl dX0_termYielded_129 rfl ?_
      refine aw_callSN (npc := 134) (N := mX7_carePlace) (mc := 0) (ms := 0) (A := [.int 1, .int (nI t)]) (S := [.ref (b + 2)]) (L0 := [some (.int 1), some (.int (nI t))]) dX0_termYielded_131 rfl km_X7_carePlace kk_X0_87 rfl ⟨rfl, by decide⟩ rfl (Nat.le_of_ble_eq_true rfl) (Nat.zero_add _) (Nat.zero_add _) rfl ?_
      refine aw_iload_n (npc := 1) rfl dX7_carePlace_0 rfl ?_
      refine aw_iconst (npc := 2) (v := 4) (by decide) dX7_carePlace_1 rfl ?_
      refine aw_imulV (npc := 3) (v := 4) dX7_carePlace_2 rfl (by decide) ?_
      refine aw_iload_n (npc := 4) rfl dX7_carePlace_3 rfl ?_
      refine aw_iaddV (npc := 5) (v := nI (4 + t)) dX7_carePlace_4 rfl (nI_add 4 _) ?_
      refine aw_iret rfl dX7_carePlace_5 ?_
      refine aw_re (S' := [.int (nI (4 + t)), .ref (b + 2)]) rfl ?_
      refine aw_iald (npc := 135) (x := N (12 + 1 * (4 + t))) (j := (4 + t)) dX0_termYielded_134 rfl F.2.2.1 (am_ix_nI (by omega)) (tl_at (by omega)) ?_
      refine aw_istore (npc := 137) (L' := [some (.ref b), some (.int (nI f)), some (.int kd), some (.int 1), some (.int bo), some (.int 0), some (.int 1), some (.int bs), some (.int bc), some (.int (nI t)), some (.int 0), some (.int (N (12 + 1 * (4 + t))))]) dX0_termYielded_135 rfl (by decide) rfl rfl ?_
      refine aw_iload (npc := 139) rfl dX0_termYielded_137 rfl ?_
      refine aw_if_eq (npc := 142) (tgt := 177) dX0_termYielded_139 rfl (by decide) (fun _ => ?_) (fun hc => absurd (by decide) hc)
      refine aw_iinc (npc := 180) (v := nI (t + 1)) (L' := [some (.ref b), some (.int (nI f)), some (.int kd), some (.int 1), some (.int bo), some (.int 0), some (.int 1), some (.int bs), some (.int bc), some (.int (nI (t + 1))), some (.int 0), some (.int (N (12 + 1 * (4 + t))))]) dX0_termYielded_177 rfl rfl (nI_1 _) (by decide) rfl rfl ?_
      refine aw_goto (npc := 76) dX0_termYielded_180 (by decide) ?_
      refine ih (t + 1) (by omega) bs bc _ _ ?_
      have e9 : tyStp 1 0 4 N t (bs, bc) = (bs, bc) := by simp [tyStp, hc2, -Nat.one_mul, -Nat.zero_add]
      exact (congrArg (tyM 1 0 4 N m (t + 1)) e9) ▸ hq
    · refine aw_iconst (npc := 117) (v := 1) (by decide) dX0_termYielded_116 rfl ?_
      refine aw_goto (npc := 121) dX0_termYielded_117 (by decide) ?_
      refine aw_istore (npc := 123) (L' := [some (.ref b), some (.int (nI f)), some (.int kd), some (.int 1), some (.int bo), some (.int 0), some (.int 1), some (.int bs), some (.int bc), some (.int (nI t)), some (.int 1), v11]) dX0_termYielded_121 rfl (by decide) rfl rfl ?_
      refine aw_aload_n (npc := 124) rfl dX0_termYielded_123 rfl ?_
      refine aw_get (npc := 127) dX0_termYielded_124 rfl kf_X0_15 F.1 rfl ?_
      refine aw_iload (npc := 129) rfl dX0_termYielded_127 rfl ?_
      refine aw_iload (npc := 131) rfl dX0_termYielded_129 rfl ?_
      refine aw_callSN (npc := 134) (N := mX7_carePlace) (mc := 0) (ms := 0) (A := [.int 1, .int (nI t)]) (S := [.ref (b + 2)]) (L0 := [some (.int 1), some (.int (nI t))]) dX0_termYielded_131 rfl km_X7_carePlace kk_X0_87 rfl ⟨rfl, by decide⟩ rfl (Nat.le_of_ble_eq_true rfl) (Nat.zero_add _) (Nat.zero_add _) rfl ?_
      refine aw_iload_n (npc := 1) rfl dX7_carePlace_0 rfl ?_
      refine aw_iconst (npc := 2) (v := 4) (by decide) dX7_carePlace_1 rfl ?_
      refine aw_imulV (npc := 3) (v := 4) dX7_carePlace_2 rfl (by decide) ?_
      refine aw_iload_n (npc := 4) rfl dX7_carePlace_3 rfl ?_
      refine aw_iaddV (npc := 5) (v := nI (4 + t)) dX7_carePlace_4 rfl (nI_add 4 _) ?_
      refine aw_iret rfl dX7_carePlace_5 ?_
      refine aw_re (S' := [.int (nI (4 + t)), .ref (b + 2)]) rfl ?_
      refine aw_iald (npc := 135) (x := N (12 + 1 * (4 + t))) (j := (4 + t)) dX0_termYielded_134 rfl F.2.2.1 (am_ix_nI (by omega)) (tl_at (by omega)) ?_
      refine aw_istore (npc := 137) (L' := [some (.ref b), some (.int (nI f)), some (.int kd), some (.int 1), some (.int bo), some (.int 0), some (.int 1), some (.int bs), some (.int bc), some (.int (nI t)), some (.int 1), some (.int (N (12 + 1 * (4 + t))))]) dX0_termYielded_135 rfl (by decide) rfl rfl ?_
      refine aw_iload (npc := 139) rfl dX0_termYielded_137 rfl ?_
      refine aw_if_eq (npc := 142) (tgt := 177) dX0_termYielded_139 rfl (by decide) (fun hc => absurd hc (by decide)) (fun _ => ?_)
      refine aw_iload (npc := 144) rfl dX0_termYielded_142 rfl ?_
      refine aw_if_lt (npc := 147) (tgt := 169) dX0_termYielded_144 rfl (by decide) (fun hc3 => ?_) (fun hc3 => ?_)
      · refine aw_iload (npc := 171) rfl dX0_termYielded_169 rfl ?_
        refine aw_istore (npc := 173) (L' := [some (.ref b), some (.int (nI f)), some (.int kd), some (.int 1), some (.int bo), some (.int 0), some (.int 1), some (.int (nI t)), some (.int bc), some (.int (nI t)), some (.int 1), some (.int (N (12 + 1 * (4 + t))))]) dX0_termYielded_171 rfl (by decide) rfl rfl ?_
        refine aw_iload (npc := 175) rfl dX0_termYielded_173 rfl ?_
        refine aw_istore (npc := 177) (L' := [some (.ref b), some (.int (nI f)), some (.int kd), some (.int 1), some (.int bo), some (.int 0), some (.int 1), some (.int (nI t)), some (.int (N (12 + 1 * (4 + t)))), some (.int (nI t)), some (.int 1), some (.int (N (12 + 1 * (4 + t))))]) dX0_termYielded_175 rfl (by decide) rfl rfl ?_
        refine aw_iinc (npc := 180) (v := nI (t + 1)) (L' := [some (.ref b), some (.int (nI f)), some (.int kd), some (.int 1), some (.int bo), some (.int 0), some (.int 1), some (.int (nI t)), some (.int (N (12 + 1 * (4 + t)))), some (.int (nI (t + 1))), some (.int 1), some (.int (N (12 + 1 * (4 + t))))]) dX0_termYielded_177 rfl rfl (nI_1 _) (by decide) rfl rfl ?_
        refine aw_goto (npc := 76) dX0_termYielded_180 (by decide) ?_
        refine ih (t + 1) (by omega) (nI t) (N (12 + 1 * (4 + t))) _ _ ?_
        have e9 : tyStp 1 0 4 N t (bs, bc) = (nI t, N (12 + 1 * (4 + t))) := by simp [tyStp, hc2, hc3, -Nat.one_mul, -Nat.zero_add]
        exact (congrArg (tyM 1 0 4 N m (t + 1)) e9) ▸ hq
      · refine aw_iload (npc := 149) rfl dX0_termYielded_147 rfl ?_
        refine aw_if_eq (npc := 152) (tgt := 162) dX0_termYielded_149 rfl (by decide) (fun _ => ?_) (fun hc => absurd (by decide) hc)
        refine aw_iload (npc := 164) rfl dX0_termYielded_162 rfl ?_
        refine aw_iload (npc := 166) rfl dX0_termYielded_164 rfl ?_
        refine aw_icmp_ge (npc := 169) (tgt := 177) dX0_termYielded_166 rfl (by decide) (fun hc4 => ?_) (fun hc4 => ?_)
        · refine aw_iinc (npc := 180) (v := nI (t + 1)) (L' := [some (.ref b), some (.int (nI f)), some (.int kd), some (.int 1), some (.int bo), some (.int 0), some (.int 1), some (.int bs), some (.int bc), some (.int (nI (t + 1))), some (.int 1), some (.int (N (12 + 1 * (4 + t))))]) dX0_termYielded_177 rfl rfl (nI_1 _) (by decide) rfl rfl ?_
          refine aw_goto (npc := 76) dX0_termYielded_180 (by decide) ?_
          refine ih (t + 1) (by omega) bs bc _ _ ?_
          have e9 : tyStp 1 0 4 N t (bs, bc) = (bs, bc) := by simp [tyStp, hc2, hc3, hc4, -Nat.one_mul, -Nat.zero_add]
          exact (congrArg (tyM 1 0 4 N m (t + 1)) e9) ▸ hq
        · refine aw_iload (npc := 171) rfl dX0_termYielded_169 rfl ?_
          refine aw_istore (npc := 173) (L' := [some (.ref b), some (.int (nI f)), some (.int kd), some (.int 1), some (.int bo), some (.int 0), some (.int 1), some (.int (nI t)), some (.int bc), some (.int (nI t)), some (.int 1), some (.int (N (12 + 1 * (4 + t))))]) dX0_termYielded_171 rfl (by decide) rfl rfl ?_
          refine aw_iload (npc := 175) rfl dX0_termYielded_173 rfl ?_
          refine aw_istore (npc := 177) (L' := [some (.ref b), some (.int (nI f)), some (.int kd), some (.int 1), some (.int bo), some (.int 0), some (.int 1), some (.int (nI t)), some (.int (N (12 + 1 * (4 + t)))), some (.int (nI t)), some (.int 1), some (.int (N (12 + 1 * (4 + t))))]) dX0_termYielded_175 rfl (by decide) rfl rfl ?_
          refine aw_iinc (npc := 180) (v := nI (t + 1)) (L' := [some (.ref b), some (.int (nI f)), some (.int kd), some (.int 1), some (.int bo), some (.int 0), some (.int 1), some (.int (nI t)), some (.int (N (12 + 1 * (4 + t)))), some (.int (nI (t + 1))), some (.int 1), some (.int (N (12 + 1 * (4 + t))))]) dX0_termYielded_177 rfl rfl (nI_1 _) (by decide) rfl rfl ?_
          refine aw_goto (npc := 76) dX0_termYielded_180 (by decide) ?_
          refine ih (t + 1) (by omega) (nI t) (N (12 + 1 * (4 + t))) _ _ ?_
          have e9 : tyStp 1 0 4 N t (bs, bc) = (nI t, N (12 + 1 * (4 + t))) := by simp [tyStp, hc2, hc3, hc4, -Nat.one_mul, -Nat.zero_add]
          exact (congrArg (tyM 1 0 4 N m (t + 1)) e9) ▸ hq
set_option maxHeartbeats 4000000 in
set_option maxRecDepth 100000 in
theorem g_tyL110 {X : List Int32} {d rc rs n : Nat} {Q : am_Q} {b : Nat} {N : Nat → Int32} {tx : List Value} {lk mv : Nat → Int32} {h : am_H} {f : Nat} {kd bo : Int32} (F : QR b N tx lk mv h) : ∀ (m t : Nat), t + m = 4 → ∀ (bs bc : Int32) (v10 v11 : Option Value), Q (some (.int (tyM 1 1 0 N m t (bs, bc)).1)) n h → AW X mX0_termYielded (d + 3) rc rs 76 [some (.ref b), some (.int (nI f)), some (.int kd), some (.int 1), some (.int bo), some (.int 1), some (.int 0), some (.int bs), some (.int bc), some (.int (nI t)), v10, v11] [] n h Q := by
  intro m
  induction m with
  | zero =>
    intro t ht bs bc v10 v11 hq
    obtain rfl : t = 4 := by omega
    refine aw_iload (npc := 78) rfl dX0_termYielded_76 rfl ?_
    refine aw_iconst (npc := 79) (v := 4) (by decide) dX0_termYielded_78 rfl ?_
    refine aw_icmp_ge (npc := 82) (tgt := 183) dX0_termYielded_79 rfl (by decide) (fun _ => ?_) (fun hc => absurd (nI_le (a := 4) (b := 4) (by omega) (by omega)) hc)
    refine aw_iload (npc := 185) rfl dX0_termYielded_183 rfl ?_
    refine aw_iret rfl dX0_termYielded_185 ?_
    exact hq
  | succ m ih =>
    intro t ht bs bc v10 v11 hq
    refine aw_iload (npc := 78) rfl dX0_termYielded_76 rfl ?_
    refine aw_iconst (npc := 79) (v := 4) (by decide) dX0_termYielded_78 rfl ?_
    refine aw_icmp_ge (npc := 82) (tgt := 183) dX0_termYielded_79 rfl (by decide) (fun hc => absurd hc (nI_ge (a := t) (b := 4) (by omega) (by omega))) (fun _ => ?_)
    refine aw_iload_n (npc := 83) rfl dX0_termYielded_82 rfl ?_
    refine aw_if_ne (npc := 86) (tgt := 104) dX0_termYielded_83 rfl (by decide) (fun _ => ?_) (fun hc => absurd hc (by decide))
    refine aw_aload_n (npc := 105) rfl dX0_termYielded_104 rfl ?_
    refine aw_get (npc := 108) dX0_termYielded_105 rfl kf_X0_9 F.1 rfl ?_
    refine aw_iload (npc := 110) rfl dX0_termYielded_108 rfl ?_
    refine aw_iald (npc := 111) (x := N (8 + 1 * t)) (j := t) dX0_termYielded_110 rfl F.2.1 (am_ix_nI (by omega)) (tl_at (by omega)) ?_
    refine aw_bipush (npc := 113) (v := 9) (by decide) dX0_termYielded_111 rfl ?_
    refine aw_icmp_ge (npc := 116) (tgt := 120) dX0_termYielded_113 rfl (by decide) (fun hc2 => ?_) (fun hc2 => ?_)
    · refine aw_iconst (npc := 121) (v := 0) (by decide) dX0_termYielded_120 rfl ?_
      refine aw_istore (npc := 123) (L' := [some (.ref b), some (.int (nI f)), some (.int kd), some (.int 1), some (.int bo), some (.int 1), some (.int 0), some (.int bs), some (.int bc), some (.int (nI t)), some (.int 0), v11]) dX0_termYielded_121 rfl (by decide) rfl rfl ?_
      refine aw_aload_n (npc := 124) rfl dX0_termYielded_123 rfl ?_
      refine aw_get (npc := 127) dX0_termYielded_124 rfl kf_X0_15 F.1 rfl ?_
      refine aw_iload (npc := 129) rfl dX0_termYielded_127 rfl ?_
      refine aw_iload (npc := 131) rfl dX0_termYielded_129 rfl ?_
      refine aw_callSN (npc := 134) (N := mX7_carePlace) (mc := 0) (ms := 0) (A := [.int 0, .int (nI t)]) (S := [.ref (b + 2)]) (L0 := [some (.int 0), some (.int (nI t))]) dX0_termYielded_131 rfl km_X7_carePlace kk_X0_87 rfl ⟨rfl, by decide⟩ rfl (Nat.le_of_ble_eq_true rfl) (Nat.zero_add _) (Nat.zero_add _) rfl ?_
      refine aw_iload_n (npc := 1) rfl dX7_carePlace_0 rfl ?_
      refine aw_iconst (npc := 2) (v := 4) (by decide) dX7_carePlace_1 rfl ?_
      refine aw_imulV (npc := 3) (v := 0) dX7_carePlace_2 rfl (by decide) ?_
      refine aw_iload_n (npc := 4) rfl dX7_carePlace_3 rfl ?_
      refine aw_iaddV (npc := 5) (v := nI (0 + t)) dX7_carePlace_4 rfl (nI_add 0 _) ?_
      refine aw_iret rfl dX7_carePlace_5 ?_
      refine aw_re (S' := [.int (nI (0 + t)), .ref (b + 2)]) rfl ?_
      refine aw_iald (npc := 135) (x := N (12 + 1 * (0 + t))) (j := (0 + t)) dX0_termYielded_134 rfl F.2.2.1 (am_ix_nI (by omega)) (tl_at (by omega)) ?_
      refine aw_istore (npc := 137) (L' := [some (.ref b), some (.int (nI f)), some (.int kd), some (.int 1), some (.int bo), some (.int 1), some (.int 0), some (.int bs), some (.int bc), some (.int (nI t)), some (.int 0), some (.int (N (12 + 1 * (0 + t))))]) dX0_termYielded_135 rfl (by decide) rfl rfl ?_
      refine aw_iload (npc := 139) rfl dX0_termYielded_137 rfl ?_
      refine aw_if_eq (npc := 142) (tgt := 177) dX0_termYielded_139 rfl (by decide) (fun _ => ?_) (fun hc => absurd (by decide) hc)
      refine aw_iinc (npc := 180) (v := nI (t + 1)) (L' := [some (.ref b), some (.int (nI f)), some (.int kd), some (.int 1), some (.int bo), some (.int 1), some (.int 0), some (.int bs), some (.int bc), some (.int (nI (t + 1))), some (.int 0), some (.int (N (12 + 1 * (0 + t))))]) dX0_termYielded_177 rfl rfl (nI_1 _) (by decide) rfl rfl ?_
      refine aw_goto (npc := 76) dX0_termYielded_180 (by decide) ?_
      refine ih (t + 1) (by omega) bs bc _ _ ?_
      have e9 : tyStp 1 1 0 N t (bs, bc) = (bs, bc) := by simp [tyStp, hc2, -Nat.one_mul, -Nat.zero_add]
      exact (congrArg (tyM 1 1 0 N m (t + 1)) e9) ▸ hq
    · refine aw_iconst (npc := 117) (v := 1) (by decide) dX0_termYielded_116 rfl ?_
      refine aw_goto (npc := 121) dX0_termYielded_117 (by decide) ?_
      refine aw_istore (npc := 123) (L' := [some (.ref b), some (.int (nI f)), some (.int kd), some (.int 1), some (.int bo), some (.int 1), some (.int 0), some (.int bs), some (.int bc), some (.int (nI t)), some (.int 1), v11]) dX0_termYielded_121 rfl (by decide) rfl rfl ?_
      refine aw_aload_n (npc := 124) rfl dX0_termYielded_123 rfl ?_
      refine aw_get (npc := 127) dX0_termYielded_124 rfl kf_X0_15 F.1 rfl ?_
      refine aw_iload (npc := 129) rfl dX0_termYielded_127 rfl ?_
      refine aw_iload (npc := 131) rfl dX0_termYielded_129 rfl ?_
      refine aw_callSN (npc := 134) (N := mX7_carePlace) (mc := 0) (ms := 0) (A := [.int 0, .int (nI t)]) (S := [.ref (b + 2)]) (L0 := [some (.int 0), some (.int (nI t))]) dX0_termYielded_131 rfl km_X7_carePlace kk_X0_87 rfl ⟨rfl, by decide⟩ rfl (Nat.le_of_ble_eq_true rfl) (Nat.zero_add _) (Nat.zero_add _) rfl ?_
      refine aw_iload_n (npc := 1) rfl dX7_carePlace_0 rfl ?_
      refine aw_iconst (npc := 2) (v := 4) (by decide) dX7_carePlace_1 rfl ?_
      refine aw_imulV (npc := 3) (v := 0) dX7_carePlace_2 rfl (by decide) ?_
      refine aw_iload_n (npc := 4) rfl dX7_carePlace_3 rfl ?_
      refine aw_iaddV (npc := 5) (v := nI (0 + t)) dX7_carePlace_4 rfl (nI_add 0 _) ?_
      refine aw_iret rfl dX7_carePlace_5 ?_
      refine aw_re (S' := [.int (nI (0 + t)), .ref (b + 2)]) rfl ?_
      refine aw_iald (npc := 135) (x := N (12 + 1 * (0 + t))) (j := (0 + t)) dX0_termYielded_134 rfl F.2.2.1 (am_ix_nI (by omega)) (tl_at (by omega)) ?_
      refine aw_istore (npc := 137) (L' := [some (.ref b), some (.int (nI f)), some (.int kd), some (.int 1), some (.int bo), some (.int 1), some (.int 0), some (.int bs), some (.int bc), some (.int (nI t)), some (.int 1), some (.int (N (12 + 1 * (0 + t))))]) dX0_termYielded_135 rfl (by decide) rfl rfl ?_
      refine aw_iload (npc := 139) rfl dX0_termYielded_137 rfl ?_
      refine aw_if_eq (npc := 142) (tgt := 177) dX0_termYielded_139 rfl (by decide) (fun hc => absurd hc (by decide)) (fun _ => ?_)
      refine aw_iload (npc := 144) rfl dX0_termYielded_142 rfl ?_
      refine aw_if_lt (npc := 147) (tgt := 169) dX0_termYielded_144 rfl (by decide) (fun hc3 => ?_) (fun hc3 => ?_)
      · refine aw_iload (npc := 171) rfl dX0_termYielded_169 rfl ?_
        refine aw_istore (npc := 173) (L' := [some (.ref b), some (.int (nI f)), some (.int kd), some (.int 1), some (.int bo), some (.int 1), some (.int 0), some (.int (nI t)), some (.int bc), some (.int (nI t)), some (.int 1), some (.int (N (12 + 1 * (0 + t))))]) dX0_termYielded_171 rfl (by decide) rfl rfl ?_
        refine aw_iload (npc := 175) rfl dX0_termYielded_173 rfl ?_
        refine aw_istore (npc := 177) (L' := [some (.ref b), some (.int (nI f)), some (.int kd), some (.int 1), some (.int bo), some (.int 1), some (.int 0), some (.int (nI t)), some (.int (N (12 + 1 * (0 + t)))), some (.int (nI t)), some (.int 1), some (.int (N (12 + 1 * (0 + t))))]) dX0_termYielded_175 rfl (by decide) rfl rfl ?_
        refine aw_iinc (npc := 180) (v := nI (t + 1)) (L' := [some (.ref b), some (.int (nI f)), some (.int kd), some (.int 1), some (.int bo), some (.int 1), some (.int 0), some (.int (nI t)), some (.int (N (12 + 1 * (0 + t)))), some (.int (nI (t + 1))), some (.int 1), some (.int (N (12 + 1 * (0 + t))))]) dX0_termYielded_177 rfl rfl (nI_1 _) (by decide) rfl rfl ?_
        refine aw_goto (npc := 76) dX0_termYielded_180 (by decide) ?_
        refine ih (t + 1) (by omega) (nI t) (N (12 + 1 * (0 + t))) _ _ ?_
        have e9 : tyStp 1 1 0 N t (bs, bc) = (nI t, N (12 + 1 * (0 + t))) := by simp [tyStp, hc2, hc3, -Nat.one_mul, -Nat.zero_add]
        exact (congrArg (tyM 1 1 0 N m (t + 1)) e9) ▸ hq
      · refine aw_iload (npc := 149) rfl dX0_termYielded_147 rfl ?_
        refine aw_if_eq (npc := 152) (tgt := 162) dX0_termYielded_149 rfl (by decide) (fun hc => absurd hc (by decide)) (fun _ => ?_)
        refine aw_iload (npc := 154) rfl dX0_termYielded_152 rfl ?_
        refine aw_iload (npc := 156) rfl dX0_termYielded_154 rfl ?_
        refine aw_icmp_le (npc := 159) (tgt := 177) dX0_termYielded_156 rfl (by decide) (fun hc4 => ?_) (fun hc4 => ?_)
        · refine aw_iinc (npc := 180) (v := nI (t + 1)) (L' := [some (.ref b), some (.int (nI f)), some (.int kd), some (.int 1), some (.int bo), some (.int 1), some (.int 0), some (.int bs), some (.int bc), some (.int (nI (t + 1))), some (.int 1), some (.int (N (12 + 1 * (0 + t))))]) dX0_termYielded_177 rfl rfl (nI_1 _) (by decide) rfl rfl ?_
          refine aw_goto (npc := 76) dX0_termYielded_180 (by decide) ?_
          refine ih (t + 1) (by omega) bs bc _ _ ?_
          have e9 : tyStp 1 1 0 N t (bs, bc) = (bs, bc) := by simp [tyStp, hc2, hc3, hc4, -Nat.one_mul, -Nat.zero_add]
          exact (congrArg (tyM 1 1 0 N m (t + 1)) e9) ▸ hq
        · refine aw_goto (npc := 169) dX0_termYielded_159 (by decide) ?_
          refine aw_iload (npc := 171) rfl dX0_termYielded_169 rfl ?_
          refine aw_istore (npc := 173) (L' := [some (.ref b), some (.int (nI f)), some (.int kd), some (.int 1), some (.int bo), some (.int 1), some (.int 0), some (.int (nI t)), some (.int bc), some (.int (nI t)), some (.int 1), some (.int (N (12 + 1 * (0 + t))))]) dX0_termYielded_171 rfl (by decide) rfl rfl ?_
          refine aw_iload (npc := 175) rfl dX0_termYielded_173 rfl ?_
          refine aw_istore (npc := 177) (L' := [some (.ref b), some (.int (nI f)), some (.int kd), some (.int 1), some (.int bo), some (.int 1), some (.int 0), some (.int (nI t)), some (.int (N (12 + 1 * (0 + t)))), some (.int (nI t)), some (.int 1), some (.int (N (12 + 1 * (0 + t))))]) dX0_termYielded_175 rfl (by decide) rfl rfl ?_
          refine aw_iinc (npc := 180) (v := nI (t + 1)) (L' := [some (.ref b), some (.int (nI f)), some (.int kd), some (.int 1), some (.int bo), some (.int 1), some (.int 0), some (.int (nI t)), some (.int (N (12 + 1 * (0 + t)))), some (.int (nI (t + 1))), some (.int 1), some (.int (N (12 + 1 * (0 + t))))]) dX0_termYielded_177 rfl rfl (nI_1 _) (by decide) rfl rfl ?_
          refine aw_goto (npc := 76) dX0_termYielded_180 (by decide) ?_
          refine ih (t + 1) (by omega) (nI t) (N (12 + 1 * (0 + t))) _ _ ?_
          have e9 : tyStp 1 1 0 N t (bs, bc) = (nI t, N (12 + 1 * (0 + t))) := by simp [tyStp, hc2, hc3, hc4, -Nat.one_mul, -Nat.zero_add]
          exact (congrArg (tyM 1 1 0 N m (t + 1)) e9) ▸ hq
set_option maxHeartbeats 4000000 in
set_option maxRecDepth 100000 in
theorem g_tyL111 {X : List Int32} {d rc rs n : Nat} {Q : am_Q} {b : Nat} {N : Nat → Int32} {tx : List Value} {lk mv : Nat → Int32} {h : am_H} {f : Nat} {kd bo : Int32} (F : QR b N tx lk mv h) : ∀ (m t : Nat), t + m = 4 → ∀ (bs bc : Int32) (v10 v11 : Option Value), Q (some (.int (tyM 1 1 4 N m t (bs, bc)).1)) n h → AW X mX0_termYielded (d + 3) rc rs 76 [some (.ref b), some (.int (nI f)), some (.int kd), some (.int 1), some (.int bo), some (.int 1), some (.int 1), some (.int bs), some (.int bc), some (.int (nI t)), v10, v11] [] n h Q := by
  intro m
  induction m with
  | zero =>
    intro t ht bs bc v10 v11 hq
    obtain rfl : t = 4 := by omega
    refine aw_iload (npc := 78) rfl dX0_termYielded_76 rfl ?_
    refine aw_iconst (npc := 79) (v := 4) (by decide) dX0_termYielded_78 rfl ?_
    refine aw_icmp_ge (npc := 82) (tgt := 183) dX0_termYielded_79 rfl (by decide) (fun _ => ?_) (fun hc => absurd (nI_le (a := 4) (b := 4) (by omega) (by omega)) hc)
    refine aw_iload (npc := 185) rfl dX0_termYielded_183 rfl ?_
    refine aw_iret rfl dX0_termYielded_185 ?_
    exact hq
  | succ m ih =>
    intro t ht bs bc v10 v11 hq
    refine aw_iload (npc := 78) rfl dX0_termYielded_76 rfl ?_
    refine aw_iconst (npc := 79) (v := 4) (by decide) dX0_termYielded_78 rfl ?_
    refine aw_icmp_ge (npc := 82) (tgt := 183) dX0_termYielded_79 rfl (by decide) (fun hc => absurd hc (nI_ge (a := t) (b := 4) (by omega) (by omega))) (fun _ => ?_)
    refine aw_iload_n (npc := 83) rfl dX0_termYielded_82 rfl ?_
    refine aw_if_ne (npc := 86) (tgt := 104) dX0_termYielded_83 rfl (by decide) (fun _ => ?_) (fun hc => absurd hc (by decide))
    refine aw_aload_n (npc := 105) rfl dX0_termYielded_104 rfl ?_
    refine aw_get (npc := 108) dX0_termYielded_105 rfl kf_X0_9 F.1 rfl ?_
    refine aw_iload (npc := 110) rfl dX0_termYielded_108 rfl ?_
    refine aw_iald (npc := 111) (x := N (8 + 1 * t)) (j := t) dX0_termYielded_110 rfl F.2.1 (am_ix_nI (by omega)) (tl_at (by omega)) ?_
    refine aw_bipush (npc := 113) (v := 9) (by decide) dX0_termYielded_111 rfl ?_
    refine aw_icmp_ge (npc := 116) (tgt := 120) dX0_termYielded_113 rfl (by decide) (fun hc2 => ?_) (fun hc2 => ?_)
    · refine aw_iconst (npc := 121) (v := 0) (by decide) dX0_termYielded_120 rfl ?_
      refine aw_istore (npc := 123) (L' := [some (.ref b), some (.int (nI f)), some (.int kd), some (.int 1), some (.int bo), some (.int 1), some (.int 1), some (.int bs), some (.int bc), some (.int (nI t)), some (.int 0), v11]) dX0_termYielded_121 rfl (by decide) rfl rfl ?_
      refine aw_aload_n (npc := 124) rfl dX0_termYielded_123 rfl ?_
      refine aw_get (npc := 127) dX0_termYielded_124 rfl kf_X0_15 F.1 rfl ?_
      refine aw_iload (npc := 129) rfl dX0_termYielded_127 rfl ?_
      refine aw_iload (npc := 131) rfl dX0_termYielded_129 rfl ?_
      refine aw_callSN (npc := 134) (N := mX7_carePlace) (mc := 0) (ms := 0) (A := [.int 1, .int (nI t)]) (S := [.ref (b + 2)]) (L0 := [some (.int 1), some (.int (nI t))]) dX0_termYielded_131 rfl km_X7_carePlace kk_X0_87 rfl ⟨rfl, by decide⟩ rfl (Nat.le_of_ble_eq_true rfl) (Nat.zero_add _) (Nat.zero_add _) rfl ?_
      refine aw_iload_n (npc := 1) rfl dX7_carePlace_0 rfl ?_
      refine aw_iconst (npc := 2) (v := 4) (by decide) dX7_carePlace_1 rfl ?_
      refine aw_imulV (npc := 3) (v := 4) dX7_carePlace_2 rfl (by decide) ?_
      refine aw_iload_n (npc := 4) rfl dX7_carePlace_3 rfl ?_
      refine aw_iaddV (npc := 5) (v := nI (4 + t)) dX7_carePlace_4 rfl (nI_add 4 _) ?_
      refine aw_iret rfl dX7_carePlace_5 ?_
      refine aw_re (S' := [.int (nI (4 + t)), .ref (b + 2)]) rfl ?_
      refine aw_iald (npc := 135) (x := N (12 + 1 * (4 + t))) (j := (4 + t)) dX0_termYielded_134 rfl F.2.2.1 (am_ix_nI (by omega)) (tl_at (by omega)) ?_
      refine aw_istore (npc := 137) (L' := [some (.ref b), some (.int (nI f)), some (.int kd), some (.int 1), some (.int bo), some (.int 1), some (.int 1), some (.int bs), some (.int bc), some (.int (nI t)), some (.int 0), some (.int (N (12 + 1 * (4 + t))))]) dX0_termYielded_135 rfl (by decide) rfl rfl ?_
      refine aw_iload (npc := 139) rfl dX0_termYielded_137 rfl ?_
      refine aw_if_eq (npc := 142) (tgt := 177) dX0_termYielded_139 rfl (by decide) (fun _ => ?_) (fun hc => absurd (by decide) hc)
      refine aw_iinc (npc := 180) (v := nI (t + 1)) (L' := [some (.ref b), some (.int (nI f)), some (.int kd), some (.int 1), some (.int bo), some (.int 1), some (.int 1), some (.int bs), some (.int bc), some (.int (nI (t + 1))), some (.int 0), some (.int (N (12 + 1 * (4 + t))))]) dX0_termYielded_177 rfl rfl (nI_1 _) (by decide) rfl rfl ?_
      refine aw_goto (npc := 76) dX0_termYielded_180 (by decide) ?_
      refine ih (t + 1) (by omega) bs bc _ _ ?_
      have e9 : tyStp 1 1 4 N t (bs, bc) = (bs, bc) := by simp [tyStp, hc2, -Nat.one_mul, -Nat.zero_add]
      exact (congrArg (tyM 1 1 4 N m (t + 1)) e9) ▸ hq
    · refine aw_iconst (npc := 117) (v := 1) (by decide) dX0_termYielded_116 rfl ?_
      refine aw_goto (npc := 121) dX0_termYielded_117 (by decide) ?_
      refine aw_istore (npc := 123) (L' := [some (.ref b), some (.int (nI f)), some (.int kd), some (.int 1), some (.int bo), some (.int 1), some (.int 1), some (.int bs), some (.int bc), some (.int (nI t)), some (.int 1), v11]) dX0_termYielded_121 rfl (by decide) rfl rfl ?_
      refine aw_aload_n (npc := 124) rfl dX0_termYielded_123 rfl ?_
      refine aw_get (npc := 127) dX0_termYielded_124 rfl kf_X0_15 F.1 rfl ?_
      refine aw_iload (npc := 129) rfl dX0_termYielded_127 rfl ?_
      refine aw_iload (npc := 131) rfl dX0_termYielded_129 rfl ?_
      refine aw_callSN (npc := 134) (N := mX7_carePlace) (mc := 0) (ms := 0) (A := [.int 1, .int (nI t)]) (S := [.ref (b + 2)]) (L0 := [some (.int 1), some (.int (nI t))]) dX0_termYielded_131 rfl km_X7_carePlace kk_X0_87 rfl ⟨rfl, by decide⟩ rfl (Nat.le_of_ble_eq_true rfl) (Nat.zero_add _) (Nat.zero_add _) rfl ?_
      refine aw_iload_n (npc := 1) rfl dX7_carePlace_0 rfl ?_
      refine aw_iconst (npc := 2) (v := 4) (by decide) dX7_carePlace_1 rfl ?_
      refine aw_imulV (npc := 3) (v := 4) dX7_carePlace_2 rfl (by decide) ?_
      refine aw_iload_n (npc := 4) rfl dX7_carePlace_3 rfl ?_
      refine aw_iaddV (npc := 5) (v := nI (4 + t)) dX7_carePlace_4 rfl (nI_add 4 _) ?_
      refine aw_iret rfl dX7_carePlace_5 ?_
      refine aw_re (S' := [.int (nI (4 + t)), .ref (b + 2)]) rfl ?_
      refine aw_iald (npc := 135) (x := N (12 + 1 * (4 + t))) (j := (4 + t)) dX0_termYielded_134 rfl F.2.2.1 (am_ix_nI (by omega)) (tl_at (by omega)) ?_
      refine aw_istore (npc := 137) (L' := [some (.ref b), some (.int (nI f)), some (.int kd), some (.int 1), some (.int bo), some (.int 1), some (.int 1), some (.int bs), some (.int bc), some (.int (nI t)), some (.int 1), some (.int (N (12 + 1 * (4 + t))))]) dX0_termYielded_135 rfl (by decide) rfl rfl ?_
      refine aw_iload (npc := 139) rfl dX0_termYielded_137 rfl ?_
      refine aw_if_eq (npc := 142) (tgt := 177) dX0_termYielded_139 rfl (by decide) (fun hc => absurd hc (by decide)) (fun _ => ?_)
      refine aw_iload (npc := 144) rfl dX0_termYielded_142 rfl ?_
      refine aw_if_lt (npc := 147) (tgt := 169) dX0_termYielded_144 rfl (by decide) (fun hc3 => ?_) (fun hc3 => ?_)
      · refine aw_iload (npc := 171) rfl dX0_termYielded_169 rfl ?_
        refine aw_istore (npc := 173) (L' := [some (.ref b), some (.int (nI f)), some (.int kd), some (.int 1), some (.int bo), some (.int 1), some (.int 1), some (.int (nI t)), some (.int bc), some (.int (nI t)), some (.int 1), some (.int (N (12 + 1 * (4 + t))))]) dX0_termYielded_171 rfl (by decide) rfl rfl ?_
        refine aw_iload (npc := 175) rfl dX0_termYielded_173 rfl ?_
        refine aw_istore (npc := 177) (L' := [some (.ref b), some (.int (nI f)), some (.int kd), some (.int 1), some (.int bo), some (.int 1), some (.int 1), some (.int (nI t)), some (.int (N (12 + 1 * (4 + t)))), some (.int (nI t)), some (.int 1), some (.int (N (12 + 1 * (4 + t))))]) dX0_termYielded_175 rfl (by decide) rfl rfl ?_
        refine aw_iinc (npc := 180) (v := nI (t + 1)) (L' := [some (.ref b), some (.int (nI f)), some (.int kd), some (.int 1), some (.int bo), some (.int 1), some (.int 1), some (.int (nI t)), some (.int (N (12 + 1 * (4 + t)))), some (.int (nI (t + 1))), some (.int 1), some (.int (N (12 + 1 * (4 + t))))]) dX0_termYielded_177 rfl rfl (nI_1 _) (by decide) rfl rfl ?_
        refine aw_goto (npc := 76) dX0_termYielded_180 (by decide) ?_
        refine ih (t + 1) (by omega) (nI t) (N (12 + 1 * (4 + t))) _ _ ?_
        have e9 : tyStp 1 1 4 N t (bs, bc) = (nI t, N (12 + 1 * (4 + t))) := by simp [tyStp, hc2, hc3, -Nat.one_mul, -Nat.zero_add]
        exact (congrArg (tyM 1 1 4 N m (t + 1)) e9) ▸ hq
      · refine aw_iload (npc := 149) rfl dX0_termYielded_147 rfl ?_
        refine aw_if_eq (npc := 152) (tgt := 162) dX0_termYielded_149 rfl (by decide) (fun hc => absurd hc (by decide)) (fun _ => ?_)
        refine aw_iload (npc := 154) rfl dX0_termYielded_152 rfl ?_
        refine aw_iload (npc := 156) rfl dX0_termYielded_154 rfl ?_
        refine aw_icmp_le (npc := 159) (tgt := 177) dX0_termYielded_156 rfl (by decide) (fun hc4 => ?_) (fun hc4 => ?_)
        · refine aw_iinc (npc := 180) (v := nI (t + 1)) (L' := [some (.ref b), some (.int (nI f)), some (.int kd), some (.int 1), some (.int bo), some (.int 1), some (.int 1), some (.int bs), some (.int bc), some (.int (nI (t + 1))), some (.int 1), some (.int (N (12 + 1 * (4 + t))))]) dX0_termYielded_177 rfl rfl (nI_1 _) (by decide) rfl rfl ?_
          refine aw_goto (npc := 76) dX0_termYielded_180 (by decide) ?_
          refine ih (t + 1) (by omega) bs bc _ _ ?_
          have e9 : tyStp 1 1 4 N t (bs, bc) = (bs, bc) := by simp [tyStp, hc2, hc3, hc4, -Nat.one_mul, -Nat.zero_add]
          exact (congrArg (tyM 1 1 4 N m (t + 1)) e9) ▸ hq
        · refine aw_goto (npc := 169) dX0_termYielded_159 (by decide) ?_
          refine aw_iload (npc := 171) rfl dX0_termYielded_169 rfl ?_
          refine aw_istore (npc := 173) (L' := [some (.ref b), some (.int (nI f)), some (.int kd), some (.int 1), some (.int bo), some (.int 1), some (.int 1), some (.int (nI t)), some (.int bc), some (.int (nI t)), some (.int 1), some (.int (N (12 + 1 * (4 + t))))]) dX0_termYielded_171 rfl (by decide) rfl rfl ?_
          refine aw_iload (npc := 175) rfl dX0_termYielded_173 rfl ?_
          refine aw_istore (npc := 177) (L' := [some (.ref b), some (.int (nI f)), some (.int kd), some (.int 1), some (.int bo), some (.int 1), some (.int 1), some (.int (nI t)), some (.int (N (12 + 1 * (4 + t)))), some (.int (nI t)), some (.int 1), some (.int (N (12 + 1 * (4 + t))))]) dX0_termYielded_175 rfl (by decide) rfl rfl ?_
          refine aw_iinc (npc := 180) (v := nI (t + 1)) (L' := [some (.ref b), some (.int (nI f)), some (.int kd), some (.int 1), some (.int bo), some (.int 1), some (.int 1), some (.int (nI t)), some (.int (N (12 + 1 * (4 + t)))), some (.int (nI (t + 1))), some (.int 1), some (.int (N (12 + 1 * (4 + t))))]) dX0_termYielded_177 rfl rfl (nI_1 _) (by decide) rfl rfl ?_
          refine aw_goto (npc := 76) dX0_termYielded_180 (by decide) ?_
          refine ih (t + 1) (by omega) (nI t) (N (12 + 1 * (4 + t))) _ _ ?_
          have e9 : tyStp 1 1 4 N t (bs, bc) = (nI t, N (12 + 1 * (4 + t))) := by simp [tyStp, hc2, hc3, hc4, -Nat.one_mul, -Nat.zero_add]
          exact (congrArg (tyM 1 1 4 N m (t + 1)) e9) ▸ hq
set_option maxHeartbeats 4000000 in
set_option maxRecDepth 100000 in
theorem g_term {X : List Int32} {d rc rs n : Nat} {Q : am_Q} {b : Nat} {N : Nat → Int32} {tx : List Value} {lk mv : Nat → Int32} {h : am_H} {f : Nat} (F : QR b N tx lk mv h) (hf : f < 8) (hk : wi (N (22 + 5 * f)) 0 5) (hs : wi (N (23 + 5 * f)) 0 1) (hq : Q (some (.int (ty N f))) n h) : AW X mX0_termYielded (d + 3) rc rs 0 [some (.ref b), some (.int (nI f)), none, none, none, none, none, none, none, none, none, none] [] n h Q := by
  refine aw_aload_n (npc := 1) rfl dX0_termYielded_0 rfl ?_
  refine aw_get (npc := 4) dX0_termYielded_1 rfl kf_X0_43 F.1 rfl ?_
  refine aw_iload_n (npc := 5) rfl dX0_termYielded_4 rfl ?_
  refine aw_iald (npc := 6) (x := N (22 + 5 * f)) (j := f) dX0_termYielded_5 rfl F.2.2.2.2.1 (am_ix_nI (by omega)) (tl_at (by omega)) ?_
  rcases wi_c0_5 hk with ek | ek | ek | ek | ek | ek
  · refine aw_top (y := 0) ek ?_
    refine aw_istore_n (npc := 7) (L' := [some (.ref b), some (.int (nI f)), some (.int 0), none, none, none, none, none, none, none, none, none]) dX0_termYielded_6 rfl (by decide) rfl rfl ?_
    refine aw_aload_n (npc := 8) rfl dX0_termYielded_7 rfl ?_
    refine aw_get (npc := 11) dX0_termYielded_8 rfl kf_X0_46 F.1 rfl ?_
    refine aw_iload_n (npc := 12) rfl dX0_termYielded_11 rfl ?_
    refine aw_iald (npc := 13) (x := N (23 + 5 * f)) (j := f) dX0_termYielded_12 rfl F.2.2.2.2.2.1 (am_ix_nI (by omega)) (tl_at (by omega)) ?_
    rcases wi_c0_1 hs with es | es
    · refine aw_top (y := 0) es ?_
      refine aw_istore_n (npc := 14) (L' := [some (.ref b), some (.int (nI f)), some (.int 0), some (.int 0), none, none, none, none, none, none, none, none]) dX0_termYielded_13 rfl (by decide) rfl rfl ?_
      refine aw_iload_n (npc := 15) rfl dX0_termYielded_14 rfl ?_
      refine aw_iconst (npc := 16) (v := 1) (by decide) dX0_termYielded_15 rfl ?_
      refine aw_icmp_eq (npc := 19) (tgt := 29) dX0_termYielded_16 rfl (by decide) (fun hc => absurd hc (by decide)) (fun _ => ?_)
      refine aw_iload_n (npc := 20) rfl dX0_termYielded_19 rfl ?_
      refine aw_iconst (npc := 21) (v := 3) (by decide) dX0_termYielded_20 rfl ?_
      refine aw_icmp_eq (npc := 24) (tgt := 29) dX0_termYielded_21 rfl (by decide) (fun hc => absurd hc (by decide)) (fun _ => ?_)
      refine aw_iload_n (npc := 25) rfl dX0_termYielded_24 rfl ?_
      refine aw_iconst (npc := 26) (v := 4) (by decide) dX0_termYielded_25 rfl ?_
      refine aw_icmp_ne (npc := 29) (tgt := 33) dX0_termYielded_26 rfl (by decide) (fun _ => ?_) (fun hc => absurd hc (by decide))
      refine aw_iconst (npc := 34) (v := 0) (by decide) dX0_termYielded_33 rfl ?_
      refine aw_istore (npc := 36) (L' := [some (.ref b), some (.int (nI f)), some (.int 0), some (.int 0), some (.int 0), none, none, none, none, none, none, none]) dX0_termYielded_34 rfl (by decide) rfl rfl ?_
      refine aw_iload_n (npc := 37) rfl dX0_termYielded_36 rfl ?_
      refine aw_iconst (npc := 38) (v := 4) (by decide) dX0_termYielded_37 rfl ?_
      refine aw_icmp_eq (npc := 41) (tgt := 46) dX0_termYielded_38 rfl (by decide) (fun hc => absurd hc (by decide)) (fun _ => ?_)
      refine aw_iload_n (npc := 42) rfl dX0_termYielded_41 rfl ?_
      refine aw_iconst (npc := 43) (v := 5) (by decide) dX0_termYielded_42 rfl ?_
      refine aw_icmp_ne (npc := 46) (tgt := 50) dX0_termYielded_43 rfl (by decide) (fun _ => ?_) (fun hc => absurd hc (by decide))
      refine aw_iconst (npc := 51) (v := 0) (by decide) dX0_termYielded_50 rfl ?_
      refine aw_istore (npc := 53) (L' := [some (.ref b), some (.int (nI f)), some (.int 0), some (.int 0), some (.int 0), some (.int 0), none, none, none, none, none, none]) dX0_termYielded_51 rfl (by decide) rfl rfl ?_
      refine aw_iload (npc := 55) rfl dX0_termYielded_53 rfl ?_
      refine aw_if_eq (npc := 58) (tgt := 64) dX0_termYielded_55 rfl (by decide) (fun _ => ?_) (fun hc => absurd (by decide) hc)
      refine aw_iload_n (npc := 65) rfl dX0_termYielded_64 rfl ?_
      refine aw_istore (npc := 67) (L' := [some (.ref b), some (.int (nI f)), some (.int 0), some (.int 0), some (.int 0), some (.int 0), some (.int 0), none, none, none, none, none]) dX0_termYielded_65 rfl (by decide) rfl rfl ?_
      refine aw_iconst (npc := 68) (v := -1) (by decide) dX0_termYielded_67 rfl ?_
      refine aw_istore (npc := 70) (L' := [some (.ref b), some (.int (nI f)), some (.int 0), some (.int 0), some (.int 0), some (.int 0), some (.int 0), some (.int (-1)), none, none, none, none]) dX0_termYielded_68 rfl (by decide) rfl rfl ?_
      refine aw_iconst (npc := 71) (v := 0) (by decide) dX0_termYielded_70 rfl ?_
      refine aw_istore (npc := 73) (L' := [some (.ref b), some (.int (nI f)), some (.int 0), some (.int 0), some (.int 0), some (.int 0), some (.int 0), some (.int (-1)), some (.int 0), none, none, none]) dX0_termYielded_71 rfl (by decide) rfl rfl ?_
      refine aw_iconst (npc := 74) (v := 0) (by decide) dX0_termYielded_73 rfl ?_
      refine aw_istore (npc := 76) (L' := [some (.ref b), some (.int (nI f)), some (.int 0), some (.int 0), some (.int 0), some (.int 0), some (.int 0), some (.int (-1)), some (.int 0), some (.int 0), none, none]) dX0_termYielded_74 rfl (by decide) rfl rfl ?_
      refine aw_locs (L' := [some (.ref b), some (.int (nI f)), some (.int 0), some (.int 0), some (.int 0), some (.int 0), some (.int 0), some (.int (-1)), some (.int 0), some (.int (nI 0)), none, none]) rfl ?_
      refine g_tyL000 F 4 0 (by omega) (-1) 0 none none ?_
      exact (show ty N f = (tyM 0 0 0 N 4 0 (-1, 0)).1 by simp [ty, tyK, ek, es]) ▸ hq
    · refine aw_top (y := 1) es ?_
      refine aw_istore_n (npc := 14) (L' := [some (.ref b), some (.int (nI f)), some (.int 0), some (.int 1), none, none, none, none, none, none, none, none]) dX0_termYielded_13 rfl (by decide) rfl rfl ?_
      refine aw_iload_n (npc := 15) rfl dX0_termYielded_14 rfl ?_
      refine aw_iconst (npc := 16) (v := 1) (by decide) dX0_termYielded_15 rfl ?_
      refine aw_icmp_eq (npc := 19) (tgt := 29) dX0_termYielded_16 rfl (by decide) (fun hc => absurd hc (by decide)) (fun _ => ?_)
      refine aw_iload_n (npc := 20) rfl dX0_termYielded_19 rfl ?_
      refine aw_iconst (npc := 21) (v := 3) (by decide) dX0_termYielded_20 rfl ?_
      refine aw_icmp_eq (npc := 24) (tgt := 29) dX0_termYielded_21 rfl (by decide) (fun hc => absurd hc (by decide)) (fun _ => ?_)
      refine aw_iload_n (npc := 25) rfl dX0_termYielded_24 rfl ?_
      refine aw_iconst (npc := 26) (v := 4) (by decide) dX0_termYielded_25 rfl ?_
      refine aw_icmp_ne (npc := 29) (tgt := 33) dX0_termYielded_26 rfl (by decide) (fun _ => ?_) (fun hc => absurd hc (by decide))
      refine aw_iconst (npc := 34) (v := 0) (by decide) dX0_termYielded_33 rfl ?_
      refine aw_istore (npc := 36) (L' := [some (.ref b), some (.int (nI f)), some (.int 0), some (.int 1), some (.int 0), none, none, none, none, none, none, none]) dX0_termYielded_34 rfl (by decide) rfl rfl ?_
      refine aw_iload_n (npc := 37) rfl dX0_termYielded_36 rfl ?_
      refine aw_iconst (npc := 38) (v := 4) (by decide) dX0_termYielded_37 rfl ?_
      refine aw_icmp_eq (npc := 41) (tgt := 46) dX0_termYielded_38 rfl (by decide) (fun hc => absurd hc (by decide)) (fun _ => ?_)
      refine aw_iload_n (npc := 42) rfl dX0_termYielded_41 rfl ?_
      refine aw_iconst (npc := 43) (v := 5) (by decide) dX0_termYielded_42 rfl ?_
      refine aw_icmp_ne (npc := 46) (tgt := 50) dX0_termYielded_43 rfl (by decide) (fun _ => ?_) (fun hc => absurd hc (by decide))
      refine aw_iconst (npc := 51) (v := 0) (by decide) dX0_termYielded_50 rfl ?_
      refine aw_istore (npc := 53) (L' := [some (.ref b), some (.int (nI f)), some (.int 0), some (.int 1), some (.int 0), some (.int 0), none, none, none, none, none, none]) dX0_termYielded_51 rfl (by decide) rfl rfl ?_
      refine aw_iload (npc := 55) rfl dX0_termYielded_53 rfl ?_
      refine aw_if_eq (npc := 58) (tgt := 64) dX0_termYielded_55 rfl (by decide) (fun _ => ?_) (fun hc => absurd (by decide) hc)
      refine aw_iload_n (npc := 65) rfl dX0_termYielded_64 rfl ?_
      refine aw_istore (npc := 67) (L' := [some (.ref b), some (.int (nI f)), some (.int 0), some (.int 1), some (.int 0), some (.int 0), some (.int 1), none, none, none, none, none]) dX0_termYielded_65 rfl (by decide) rfl rfl ?_
      refine aw_iconst (npc := 68) (v := -1) (by decide) dX0_termYielded_67 rfl ?_
      refine aw_istore (npc := 70) (L' := [some (.ref b), some (.int (nI f)), some (.int 0), some (.int 1), some (.int 0), some (.int 0), some (.int 1), some (.int (-1)), none, none, none, none]) dX0_termYielded_68 rfl (by decide) rfl rfl ?_
      refine aw_iconst (npc := 71) (v := 0) (by decide) dX0_termYielded_70 rfl ?_
      refine aw_istore (npc := 73) (L' := [some (.ref b), some (.int (nI f)), some (.int 0), some (.int 1), some (.int 0), some (.int 0), some (.int 1), some (.int (-1)), some (.int 0), none, none, none]) dX0_termYielded_71 rfl (by decide) rfl rfl ?_
      refine aw_iconst (npc := 74) (v := 0) (by decide) dX0_termYielded_73 rfl ?_
      refine aw_istore (npc := 76) (L' := [some (.ref b), some (.int (nI f)), some (.int 0), some (.int 1), some (.int 0), some (.int 0), some (.int 1), some (.int (-1)), some (.int 0), some (.int 0), none, none]) dX0_termYielded_74 rfl (by decide) rfl rfl ?_
      refine aw_locs (L' := [some (.ref b), some (.int (nI f)), some (.int 0), some (.int 1), some (.int 0), some (.int 0), some (.int 1), some (.int (-1)), some (.int 0), some (.int (nI 0)), none, none]) rfl ?_
      refine g_tyL101 F 4 0 (by omega) (-1) 0 none none ?_
      exact (show ty N f = (tyM 1 0 4 N 4 0 (-1, 0)).1 by simp [ty, tyK, ek, es]) ▸ hq
  · refine aw_top (y := 1) ek ?_
    refine aw_istore_n (npc := 7) (L' := [some (.ref b), some (.int (nI f)), some (.int 1), none, none, none, none, none, none, none, none, none]) dX0_termYielded_6 rfl (by decide) rfl rfl ?_
    refine aw_aload_n (npc := 8) rfl dX0_termYielded_7 rfl ?_
    refine aw_get (npc := 11) dX0_termYielded_8 rfl kf_X0_46 F.1 rfl ?_
    refine aw_iload_n (npc := 12) rfl dX0_termYielded_11 rfl ?_
    refine aw_iald (npc := 13) (x := N (23 + 5 * f)) (j := f) dX0_termYielded_12 rfl F.2.2.2.2.2.1 (am_ix_nI (by omega)) (tl_at (by omega)) ?_
    rcases wi_c0_1 hs with es | es
    · refine aw_top (y := 0) es ?_
      refine aw_istore_n (npc := 14) (L' := [some (.ref b), some (.int (nI f)), some (.int 1), some (.int 0), none, none, none, none, none, none, none, none]) dX0_termYielded_13 rfl (by decide) rfl rfl ?_
      refine aw_iload_n (npc := 15) rfl dX0_termYielded_14 rfl ?_
      refine aw_iconst (npc := 16) (v := 1) (by decide) dX0_termYielded_15 rfl ?_
      refine aw_icmp_eq (npc := 19) (tgt := 29) dX0_termYielded_16 rfl (by decide) (fun _ => ?_) (fun hc => absurd (by decide) hc)
      refine aw_iconst (npc := 30) (v := 1) (by decide) dX0_termYielded_29 rfl ?_
      refine aw_goto (npc := 34) dX0_termYielded_30 (by decide) ?_
      refine aw_istore (npc := 36) (L' := [some (.ref b), some (.int (nI f)), some (.int 1), some (.int 0), some (.int 1), none, none, none, none, none, none, none]) dX0_termYielded_34 rfl (by decide) rfl rfl ?_
      refine aw_iload_n (npc := 37) rfl dX0_termYielded_36 rfl ?_
      refine aw_iconst (npc := 38) (v := 4) (by decide) dX0_termYielded_37 rfl ?_
      refine aw_icmp_eq (npc := 41) (tgt := 46) dX0_termYielded_38 rfl (by decide) (fun hc => absurd hc (by decide)) (fun _ => ?_)
      refine aw_iload_n (npc := 42) rfl dX0_termYielded_41 rfl ?_
      refine aw_iconst (npc := 43) (v := 5) (by decide) dX0_termYielded_42 rfl ?_
      refine aw_icmp_ne (npc := 46) (tgt := 50) dX0_termYielded_43 rfl (by decide) (fun _ => ?_) (fun hc => absurd hc (by decide))
      refine aw_iconst (npc := 51) (v := 0) (by decide) dX0_termYielded_50 rfl ?_
      refine aw_istore (npc := 53) (L' := [some (.ref b), some (.int (nI f)), some (.int 1), some (.int 0), some (.int 1), some (.int 0), none, none, none, none, none, none]) dX0_termYielded_51 rfl (by decide) rfl rfl ?_
      refine aw_iload (npc := 55) rfl dX0_termYielded_53 rfl ?_
      refine aw_if_eq (npc := 58) (tgt := 64) dX0_termYielded_55 rfl (by decide) (fun hc => absurd hc (by decide)) (fun _ => ?_)
      refine aw_iconst (npc := 59) (v := 1) (by decide) dX0_termYielded_58 rfl ?_
      refine aw_iload_n (npc := 60) rfl dX0_termYielded_59 rfl ?_
      refine aw_isubV (npc := 61) (v := 1) dX0_termYielded_60 rfl (by decide) ?_
      refine aw_goto (npc := 65) dX0_termYielded_61 (by decide) ?_
      refine aw_istore (npc := 67) (L' := [some (.ref b), some (.int (nI f)), some (.int 1), some (.int 0), some (.int 1), some (.int 0), some (.int 1), none, none, none, none, none]) dX0_termYielded_65 rfl (by decide) rfl rfl ?_
      refine aw_iconst (npc := 68) (v := -1) (by decide) dX0_termYielded_67 rfl ?_
      refine aw_istore (npc := 70) (L' := [some (.ref b), some (.int (nI f)), some (.int 1), some (.int 0), some (.int 1), some (.int 0), some (.int 1), some (.int (-1)), none, none, none, none]) dX0_termYielded_68 rfl (by decide) rfl rfl ?_
      refine aw_iconst (npc := 71) (v := 0) (by decide) dX0_termYielded_70 rfl ?_
      refine aw_istore (npc := 73) (L' := [some (.ref b), some (.int (nI f)), some (.int 1), some (.int 0), some (.int 1), some (.int 0), some (.int 1), some (.int (-1)), some (.int 0), none, none, none]) dX0_termYielded_71 rfl (by decide) rfl rfl ?_
      refine aw_iconst (npc := 74) (v := 0) (by decide) dX0_termYielded_73 rfl ?_
      refine aw_istore (npc := 76) (L' := [some (.ref b), some (.int (nI f)), some (.int 1), some (.int 0), some (.int 1), some (.int 0), some (.int 1), some (.int (-1)), some (.int 0), some (.int 0), none, none]) dX0_termYielded_74 rfl (by decide) rfl rfl ?_
      refine aw_locs (L' := [some (.ref b), some (.int (nI f)), some (.int 1), some (.int 0), some (.int 1), some (.int 0), some (.int 1), some (.int (-1)), some (.int 0), some (.int (nI 0)), none, none]) rfl ?_
      refine g_tyL001 F 4 0 (by omega) (-1) 0 none none ?_
      exact (show ty N f = (tyM 0 0 4 N 4 0 (-1, 0)).1 by simp [ty, tyK, ek, es]) ▸ hq
    · refine aw_top (y := 1) es ?_
      refine aw_istore_n (npc := 14) (L' := [some (.ref b), some (.int (nI f)), some (.int 1), some (.int 1), none, none, none, none, none, none, none, none]) dX0_termYielded_13 rfl (by decide) rfl rfl ?_
      refine aw_iload_n (npc := 15) rfl dX0_termYielded_14 rfl ?_
      refine aw_iconst (npc := 16) (v := 1) (by decide) dX0_termYielded_15 rfl ?_
      refine aw_icmp_eq (npc := 19) (tgt := 29) dX0_termYielded_16 rfl (by decide) (fun _ => ?_) (fun hc => absurd (by decide) hc)
      refine aw_iconst (npc := 30) (v := 1) (by decide) dX0_termYielded_29 rfl ?_
      refine aw_goto (npc := 34) dX0_termYielded_30 (by decide) ?_
      refine aw_istore (npc := 36) (L' := [some (.ref b), some (.int (nI f)), some (.int 1), some (.int 1), some (.int 1), none, none, none, none, none, none, none]) dX0_termYielded_34 rfl (by decide) rfl rfl ?_
      refine aw_iload_n (npc := 37) rfl dX0_termYielded_36 rfl ?_
      refine aw_iconst (npc := 38) (v := 4) (by decide) dX0_termYielded_37 rfl ?_
      refine aw_icmp_eq (npc := 41) (tgt := 46) dX0_termYielded_38 rfl (by decide) (fun hc => absurd hc (by decide)) (fun _ => ?_)
      refine aw_iload_n (npc := 42) rfl dX0_termYielded_41 rfl ?_
      refine aw_iconst (npc := 43) (v := 5) (by decide) dX0_termYielded_42 rfl ?_
      refine aw_icmp_ne (npc := 46) (tgt := 50) dX0_termYielded_43 rfl (by decide) (fun _ => ?_) (fun hc => absurd hc (by decide))
      refine aw_iconst (npc := 51) (v := 0) (by decide) dX0_termYielded_50 rfl ?_
      refine aw_istore (npc := 53) (L' := [some (.ref b), some (.int (nI f)), some (.int 1), some (.int 1), some (.int 1), some (.int 0), none, none, none, none, none, none]) dX0_termYielded_51 rfl (by decide) rfl rfl ?_
      refine aw_iload (npc := 55) rfl dX0_termYielded_53 rfl ?_
      refine aw_if_eq (npc := 58) (tgt := 64) dX0_termYielded_55 rfl (by decide) (fun hc => absurd hc (by decide)) (fun _ => ?_)
      refine aw_iconst (npc := 59) (v := 1) (by decide) dX0_termYielded_58 rfl ?_
      refine aw_iload_n (npc := 60) rfl dX0_termYielded_59 rfl ?_
      refine aw_isubV (npc := 61) (v := 0) dX0_termYielded_60 rfl (by decide) ?_
      refine aw_goto (npc := 65) dX0_termYielded_61 (by decide) ?_
      refine aw_istore (npc := 67) (L' := [some (.ref b), some (.int (nI f)), some (.int 1), some (.int 1), some (.int 1), some (.int 0), some (.int 0), none, none, none, none, none]) dX0_termYielded_65 rfl (by decide) rfl rfl ?_
      refine aw_iconst (npc := 68) (v := -1) (by decide) dX0_termYielded_67 rfl ?_
      refine aw_istore (npc := 70) (L' := [some (.ref b), some (.int (nI f)), some (.int 1), some (.int 1), some (.int 1), some (.int 0), some (.int 0), some (.int (-1)), none, none, none, none]) dX0_termYielded_68 rfl (by decide) rfl rfl ?_
      refine aw_iconst (npc := 71) (v := 0) (by decide) dX0_termYielded_70 rfl ?_
      refine aw_istore (npc := 73) (L' := [some (.ref b), some (.int (nI f)), some (.int 1), some (.int 1), some (.int 1), some (.int 0), some (.int 0), some (.int (-1)), some (.int 0), none, none, none]) dX0_termYielded_71 rfl (by decide) rfl rfl ?_
      refine aw_iconst (npc := 74) (v := 0) (by decide) dX0_termYielded_73 rfl ?_
      refine aw_istore (npc := 76) (L' := [some (.ref b), some (.int (nI f)), some (.int 1), some (.int 1), some (.int 1), some (.int 0), some (.int 0), some (.int (-1)), some (.int 0), some (.int 0), none, none]) dX0_termYielded_74 rfl (by decide) rfl rfl ?_
      refine aw_locs (L' := [some (.ref b), some (.int (nI f)), some (.int 1), some (.int 1), some (.int 1), some (.int 0), some (.int 0), some (.int (-1)), some (.int 0), some (.int (nI 0)), none, none]) rfl ?_
      refine g_tyL100 F 4 0 (by omega) (-1) 0 none none ?_
      exact (show ty N f = (tyM 1 0 0 N 4 0 (-1, 0)).1 by simp [ty, tyK, ek, es]) ▸ hq
  · refine aw_top (y := 2) ek ?_
    refine aw_istore_n (npc := 7) (L' := [some (.ref b), some (.int (nI f)), some (.int 2), none, none, none, none, none, none, none, none, none]) dX0_termYielded_6 rfl (by decide) rfl rfl ?_
    refine aw_aload_n (npc := 8) rfl dX0_termYielded_7 rfl ?_
    refine aw_get (npc := 11) dX0_termYielded_8 rfl kf_X0_46 F.1 rfl ?_
    refine aw_iload_n (npc := 12) rfl dX0_termYielded_11 rfl ?_
    refine aw_iald (npc := 13) (x := N (23 + 5 * f)) (j := f) dX0_termYielded_12 rfl F.2.2.2.2.2.1 (am_ix_nI (by omega)) (tl_at (by omega)) ?_
    rcases wi_c0_1 hs with es | es
    · refine aw_top (y := 0) es ?_
      refine aw_istore_n (npc := 14) (L' := [some (.ref b), some (.int (nI f)), some (.int 2), some (.int 0), none, none, none, none, none, none, none, none]) dX0_termYielded_13 rfl (by decide) rfl rfl ?_
      refine aw_iload_n (npc := 15) rfl dX0_termYielded_14 rfl ?_
      refine aw_iconst (npc := 16) (v := 1) (by decide) dX0_termYielded_15 rfl ?_
      refine aw_icmp_eq (npc := 19) (tgt := 29) dX0_termYielded_16 rfl (by decide) (fun hc => absurd hc (by decide)) (fun _ => ?_)
      refine aw_iload_n (npc := 20) rfl dX0_termYielded_19 rfl ?_
      refine aw_iconst (npc := 21) (v := 3) (by decide) dX0_termYielded_20 rfl ?_
      refine aw_icmp_eq (npc := 24) (tgt := 29) dX0_termYielded_21 rfl (by decide) (fun hc => absurd hc (by decide)) (fun _ => ?_)
      refine aw_iload_n (npc := 25) rfl dX0_termYielded_24 rfl ?_
      refine aw_iconst (npc := 26) (v := 4) (by decide) dX0_termYielded_25 rfl ?_
      refine aw_icmp_ne (npc := 29) (tgt := 33) dX0_termYielded_26 rfl (by decide) (fun _ => ?_) (fun hc => absurd hc (by decide))
      refine aw_iconst (npc := 34) (v := 0) (by decide) dX0_termYielded_33 rfl ?_
      refine aw_istore (npc := 36) (L' := [some (.ref b), some (.int (nI f)), some (.int 2), some (.int 0), some (.int 0), none, none, none, none, none, none, none]) dX0_termYielded_34 rfl (by decide) rfl rfl ?_
      refine aw_iload_n (npc := 37) rfl dX0_termYielded_36 rfl ?_
      refine aw_iconst (npc := 38) (v := 4) (by decide) dX0_termYielded_37 rfl ?_
      refine aw_icmp_eq (npc := 41) (tgt := 46) dX0_termYielded_38 rfl (by decide) (fun hc => absurd hc (by decide)) (fun _ => ?_)
      refine aw_iload_n (npc := 42) rfl dX0_termYielded_41 rfl ?_
      refine aw_iconst (npc := 43) (v := 5) (by decide) dX0_termYielded_42 rfl ?_
      refine aw_icmp_ne (npc := 46) (tgt := 50) dX0_termYielded_43 rfl (by decide) (fun _ => ?_) (fun hc => absurd hc (by decide))
      refine aw_iconst (npc := 51) (v := 0) (by decide) dX0_termYielded_50 rfl ?_
      refine aw_istore (npc := 53) (L' := [some (.ref b), some (.int (nI f)), some (.int 2), some (.int 0), some (.int 0), some (.int 0), none, none, none, none, none, none]) dX0_termYielded_51 rfl (by decide) rfl rfl ?_
      refine aw_iload (npc := 55) rfl dX0_termYielded_53 rfl ?_
      refine aw_if_eq (npc := 58) (tgt := 64) dX0_termYielded_55 rfl (by decide) (fun _ => ?_) (fun hc => absurd (by decide) hc)
      refine aw_iload_n (npc := 65) rfl dX0_termYielded_64 rfl ?_
      refine aw_istore (npc := 67) (L' := [some (.ref b), some (.int (nI f)), some (.int 2), some (.int 0), some (.int 0), some (.int 0), some (.int 0), none, none, none, none, none]) dX0_termYielded_65 rfl (by decide) rfl rfl ?_
      refine aw_iconst (npc := 68) (v := -1) (by decide) dX0_termYielded_67 rfl ?_
      refine aw_istore (npc := 70) (L' := [some (.ref b), some (.int (nI f)), some (.int 2), some (.int 0), some (.int 0), some (.int 0), some (.int 0), some (.int (-1)), none, none, none, none]) dX0_termYielded_68 rfl (by decide) rfl rfl ?_
      refine aw_iconst (npc := 71) (v := 0) (by decide) dX0_termYielded_70 rfl ?_
      refine aw_istore (npc := 73) (L' := [some (.ref b), some (.int (nI f)), some (.int 2), some (.int 0), some (.int 0), some (.int 0), some (.int 0), some (.int (-1)), some (.int 0), none, none, none]) dX0_termYielded_71 rfl (by decide) rfl rfl ?_
      refine aw_iconst (npc := 74) (v := 0) (by decide) dX0_termYielded_73 rfl ?_
      refine aw_istore (npc := 76) (L' := [some (.ref b), some (.int (nI f)), some (.int 2), some (.int 0), some (.int 0), some (.int 0), some (.int 0), some (.int (-1)), some (.int 0), some (.int 0), none, none]) dX0_termYielded_74 rfl (by decide) rfl rfl ?_
      refine aw_locs (L' := [some (.ref b), some (.int (nI f)), some (.int 2), some (.int 0), some (.int 0), some (.int 0), some (.int 0), some (.int (-1)), some (.int 0), some (.int (nI 0)), none, none]) rfl ?_
      refine g_tyL000 F 4 0 (by omega) (-1) 0 none none ?_
      exact (show ty N f = (tyM 0 0 0 N 4 0 (-1, 0)).1 by simp [ty, tyK, ek, es]) ▸ hq
    · refine aw_top (y := 1) es ?_
      refine aw_istore_n (npc := 14) (L' := [some (.ref b), some (.int (nI f)), some (.int 2), some (.int 1), none, none, none, none, none, none, none, none]) dX0_termYielded_13 rfl (by decide) rfl rfl ?_
      refine aw_iload_n (npc := 15) rfl dX0_termYielded_14 rfl ?_
      refine aw_iconst (npc := 16) (v := 1) (by decide) dX0_termYielded_15 rfl ?_
      refine aw_icmp_eq (npc := 19) (tgt := 29) dX0_termYielded_16 rfl (by decide) (fun hc => absurd hc (by decide)) (fun _ => ?_)
      refine aw_iload_n (npc := 20) rfl dX0_termYielded_19 rfl ?_
      refine aw_iconst (npc := 21) (v := 3) (by decide) dX0_termYielded_20 rfl ?_
      refine aw_icmp_eq (npc := 24) (tgt := 29) dX0_termYielded_21 rfl (by decide) (fun hc => absurd hc (by decide)) (fun _ => ?_)
      refine aw_iload_n (npc := 25) rfl dX0_termYielded_24 rfl ?_
      refine aw_iconst (npc := 26) (v := 4) (by decide) dX0_termYielded_25 rfl ?_
      refine aw_icmp_ne (npc := 29) (tgt := 33) dX0_termYielded_26 rfl (by decide) (fun _ => ?_) (fun hc => absurd hc (by decide))
      refine aw_iconst (npc := 34) (v := 0) (by decide) dX0_termYielded_33 rfl ?_
      refine aw_istore (npc := 36) (L' := [some (.ref b), some (.int (nI f)), some (.int 2), some (.int 1), some (.int 0), none, none, none, none, none, none, none]) dX0_termYielded_34 rfl (by decide) rfl rfl ?_
      refine aw_iload_n (npc := 37) rfl dX0_termYielded_36 rfl ?_
      refine aw_iconst (npc := 38) (v := 4) (by decide) dX0_termYielded_37 rfl ?_
      refine aw_icmp_eq (npc := 41) (tgt := 46) dX0_termYielded_38 rfl (by decide) (fun hc => absurd hc (by decide)) (fun _ => ?_)
      refine aw_iload_n (npc := 42) rfl dX0_termYielded_41 rfl ?_
      refine aw_iconst (npc := 43) (v := 5) (by decide) dX0_termYielded_42 rfl ?_
      refine aw_icmp_ne (npc := 46) (tgt := 50) dX0_termYielded_43 rfl (by decide) (fun _ => ?_) (fun hc => absurd hc (by decide))
      refine aw_iconst (npc := 51) (v := 0) (by decide) dX0_termYielded_50 rfl ?_
      refine aw_istore (npc := 53) (L' := [some (.ref b), some (.int (nI f)), some (.int 2), some (.int 1), some (.int 0), some (.int 0), none, none, none, none, none, none]) dX0_termYielded_51 rfl (by decide) rfl rfl ?_
      refine aw_iload (npc := 55) rfl dX0_termYielded_53 rfl ?_
      refine aw_if_eq (npc := 58) (tgt := 64) dX0_termYielded_55 rfl (by decide) (fun _ => ?_) (fun hc => absurd (by decide) hc)
      refine aw_iload_n (npc := 65) rfl dX0_termYielded_64 rfl ?_
      refine aw_istore (npc := 67) (L' := [some (.ref b), some (.int (nI f)), some (.int 2), some (.int 1), some (.int 0), some (.int 0), some (.int 1), none, none, none, none, none]) dX0_termYielded_65 rfl (by decide) rfl rfl ?_
      refine aw_iconst (npc := 68) (v := -1) (by decide) dX0_termYielded_67 rfl ?_
      refine aw_istore (npc := 70) (L' := [some (.ref b), some (.int (nI f)), some (.int 2), some (.int 1), some (.int 0), some (.int 0), some (.int 1), some (.int (-1)), none, none, none, none]) dX0_termYielded_68 rfl (by decide) rfl rfl ?_
      refine aw_iconst (npc := 71) (v := 0) (by decide) dX0_termYielded_70 rfl ?_
      refine aw_istore (npc := 73) (L' := [some (.ref b), some (.int (nI f)), some (.int 2), some (.int 1), some (.int 0), some (.int 0), some (.int 1), some (.int (-1)), some (.int 0), none, none, none]) dX0_termYielded_71 rfl (by decide) rfl rfl ?_
      refine aw_iconst (npc := 74) (v := 0) (by decide) dX0_termYielded_73 rfl ?_
      refine aw_istore (npc := 76) (L' := [some (.ref b), some (.int (nI f)), some (.int 2), some (.int 1), some (.int 0), some (.int 0), some (.int 1), some (.int (-1)), some (.int 0), some (.int 0), none, none]) dX0_termYielded_74 rfl (by decide) rfl rfl ?_
      refine aw_locs (L' := [some (.ref b), some (.int (nI f)), some (.int 2), some (.int 1), some (.int 0), some (.int 0), some (.int 1), some (.int (-1)), some (.int 0), some (.int (nI 0)), none, none]) rfl ?_
      refine g_tyL101 F 4 0 (by omega) (-1) 0 none none ?_
      exact (show ty N f = (tyM 1 0 4 N 4 0 (-1, 0)).1 by simp [ty, tyK, ek, es]) ▸ hq
  · refine aw_top (y := 3) ek ?_
    refine aw_istore_n (npc := 7) (L' := [some (.ref b), some (.int (nI f)), some (.int 3), none, none, none, none, none, none, none, none, none]) dX0_termYielded_6 rfl (by decide) rfl rfl ?_
    refine aw_aload_n (npc := 8) rfl dX0_termYielded_7 rfl ?_
    refine aw_get (npc := 11) dX0_termYielded_8 rfl kf_X0_46 F.1 rfl ?_
    refine aw_iload_n (npc := 12) rfl dX0_termYielded_11 rfl ?_
    refine aw_iald (npc := 13) (x := N (23 + 5 * f)) (j := f) dX0_termYielded_12 rfl F.2.2.2.2.2.1 (am_ix_nI (by omega)) (tl_at (by omega)) ?_
    rcases wi_c0_1 hs with es | es
    · refine aw_top (y := 0) es ?_
      refine aw_istore_n (npc := 14) (L' := [some (.ref b), some (.int (nI f)), some (.int 3), some (.int 0), none, none, none, none, none, none, none, none]) dX0_termYielded_13 rfl (by decide) rfl rfl ?_
      refine aw_iload_n (npc := 15) rfl dX0_termYielded_14 rfl ?_
      refine aw_iconst (npc := 16) (v := 1) (by decide) dX0_termYielded_15 rfl ?_
      refine aw_icmp_eq (npc := 19) (tgt := 29) dX0_termYielded_16 rfl (by decide) (fun hc => absurd hc (by decide)) (fun _ => ?_)
      refine aw_iload_n (npc := 20) rfl dX0_termYielded_19 rfl ?_
      refine aw_iconst (npc := 21) (v := 3) (by decide) dX0_termYielded_20 rfl ?_
      refine aw_icmp_eq (npc := 24) (tgt := 29) dX0_termYielded_21 rfl (by decide) (fun _ => ?_) (fun hc => absurd (by decide) hc)
      refine aw_iconst (npc := 30) (v := 1) (by decide) dX0_termYielded_29 rfl ?_
      refine aw_goto (npc := 34) dX0_termYielded_30 (by decide) ?_
      refine aw_istore (npc := 36) (L' := [some (.ref b), some (.int (nI f)), some (.int 3), some (.int 0), some (.int 1), none, none, none, none, none, none, none]) dX0_termYielded_34 rfl (by decide) rfl rfl ?_
      refine aw_iload_n (npc := 37) rfl dX0_termYielded_36 rfl ?_
      refine aw_iconst (npc := 38) (v := 4) (by decide) dX0_termYielded_37 rfl ?_
      refine aw_icmp_eq (npc := 41) (tgt := 46) dX0_termYielded_38 rfl (by decide) (fun hc => absurd hc (by decide)) (fun _ => ?_)
      refine aw_iload_n (npc := 42) rfl dX0_termYielded_41 rfl ?_
      refine aw_iconst (npc := 43) (v := 5) (by decide) dX0_termYielded_42 rfl ?_
      refine aw_icmp_ne (npc := 46) (tgt := 50) dX0_termYielded_43 rfl (by decide) (fun _ => ?_) (fun hc => absurd hc (by decide))
      refine aw_iconst (npc := 51) (v := 0) (by decide) dX0_termYielded_50 rfl ?_
      refine aw_istore (npc := 53) (L' := [some (.ref b), some (.int (nI f)), some (.int 3), some (.int 0), some (.int 1), some (.int 0), none, none, none, none, none, none]) dX0_termYielded_51 rfl (by decide) rfl rfl ?_
      refine aw_iload (npc := 55) rfl dX0_termYielded_53 rfl ?_
      refine aw_if_eq (npc := 58) (tgt := 64) dX0_termYielded_55 rfl (by decide) (fun hc => absurd hc (by decide)) (fun _ => ?_)
      refine aw_iconst (npc := 59) (v := 1) (by decide) dX0_termYielded_58 rfl ?_
      refine aw_iload_n (npc := 60) rfl dX0_termYielded_59 rfl ?_
      refine aw_isubV (npc := 61) (v := 1) dX0_termYielded_60 rfl (by decide) ?_
      refine aw_goto (npc := 65) dX0_termYielded_61 (by decide) ?_
      refine aw_istore (npc := 67) (L' := [some (.ref b), some (.int (nI f)), some (.int 3), some (.int 0), some (.int 1), some (.int 0), some (.int 1), none, none, none, none, none]) dX0_termYielded_65 rfl (by decide) rfl rfl ?_
      refine aw_iconst (npc := 68) (v := -1) (by decide) dX0_termYielded_67 rfl ?_
      refine aw_istore (npc := 70) (L' := [some (.ref b), some (.int (nI f)), some (.int 3), some (.int 0), some (.int 1), some (.int 0), some (.int 1), some (.int (-1)), none, none, none, none]) dX0_termYielded_68 rfl (by decide) rfl rfl ?_
      refine aw_iconst (npc := 71) (v := 0) (by decide) dX0_termYielded_70 rfl ?_
      refine aw_istore (npc := 73) (L' := [some (.ref b), some (.int (nI f)), some (.int 3), some (.int 0), some (.int 1), some (.int 0), some (.int 1), some (.int (-1)), some (.int 0), none, none, none]) dX0_termYielded_71 rfl (by decide) rfl rfl ?_
      refine aw_iconst (npc := 74) (v := 0) (by decide) dX0_termYielded_73 rfl ?_
      refine aw_istore (npc := 76) (L' := [some (.ref b), some (.int (nI f)), some (.int 3), some (.int 0), some (.int 1), some (.int 0), some (.int 1), some (.int (-1)), some (.int 0), some (.int 0), none, none]) dX0_termYielded_74 rfl (by decide) rfl rfl ?_
      refine aw_locs (L' := [some (.ref b), some (.int (nI f)), some (.int 3), some (.int 0), some (.int 1), some (.int 0), some (.int 1), some (.int (-1)), some (.int 0), some (.int (nI 0)), none, none]) rfl ?_
      refine g_tyL001 F 4 0 (by omega) (-1) 0 none none ?_
      exact (show ty N f = (tyM 0 0 4 N 4 0 (-1, 0)).1 by simp [ty, tyK, ek, es]) ▸ hq
    · refine aw_top (y := 1) es ?_
      refine aw_istore_n (npc := 14) (L' := [some (.ref b), some (.int (nI f)), some (.int 3), some (.int 1), none, none, none, none, none, none, none, none]) dX0_termYielded_13 rfl (by decide) rfl rfl ?_
      refine aw_iload_n (npc := 15) rfl dX0_termYielded_14 rfl ?_
      refine aw_iconst (npc := 16) (v := 1) (by decide) dX0_termYielded_15 rfl ?_
      refine aw_icmp_eq (npc := 19) (tgt := 29) dX0_termYielded_16 rfl (by decide) (fun hc => absurd hc (by decide)) (fun _ => ?_)
      refine aw_iload_n (npc := 20) rfl dX0_termYielded_19 rfl ?_
      refine aw_iconst (npc := 21) (v := 3) (by decide) dX0_termYielded_20 rfl ?_
      refine aw_icmp_eq (npc := 24) (tgt := 29) dX0_termYielded_21 rfl (by decide) (fun _ => ?_) (fun hc => absurd (by decide) hc)
      refine aw_iconst (npc := 30) (v := 1) (by decide) dX0_termYielded_29 rfl ?_
      refine aw_goto (npc := 34) dX0_termYielded_30 (by decide) ?_
      refine aw_istore (npc := 36) (L' := [some (.ref b), some (.int (nI f)), some (.int 3), some (.int 1), some (.int 1), none, none, none, none, none, none, none]) dX0_termYielded_34 rfl (by decide) rfl rfl ?_
      refine aw_iload_n (npc := 37) rfl dX0_termYielded_36 rfl ?_
      refine aw_iconst (npc := 38) (v := 4) (by decide) dX0_termYielded_37 rfl ?_
      refine aw_icmp_eq (npc := 41) (tgt := 46) dX0_termYielded_38 rfl (by decide) (fun hc => absurd hc (by decide)) (fun _ => ?_)
      refine aw_iload_n (npc := 42) rfl dX0_termYielded_41 rfl ?_
      refine aw_iconst (npc := 43) (v := 5) (by decide) dX0_termYielded_42 rfl ?_
      refine aw_icmp_ne (npc := 46) (tgt := 50) dX0_termYielded_43 rfl (by decide) (fun _ => ?_) (fun hc => absurd hc (by decide))
      refine aw_iconst (npc := 51) (v := 0) (by decide) dX0_termYielded_50 rfl ?_
      refine aw_istore (npc := 53) (L' := [some (.ref b), some (.int (nI f)), some (.int 3), some (.int 1), some (.int 1), some (.int 0), none, none, none, none, none, none]) dX0_termYielded_51 rfl (by decide) rfl rfl ?_
      refine aw_iload (npc := 55) rfl dX0_termYielded_53 rfl ?_
      refine aw_if_eq (npc := 58) (tgt := 64) dX0_termYielded_55 rfl (by decide) (fun hc => absurd hc (by decide)) (fun _ => ?_)
      refine aw_iconst (npc := 59) (v := 1) (by decide) dX0_termYielded_58 rfl ?_
      refine aw_iload_n (npc := 60) rfl dX0_termYielded_59 rfl ?_
      refine aw_isubV (npc := 61) (v := 0) dX0_termYielded_60 rfl (by decide) ?_
      refine aw_goto (npc := 65) dX0_termYielded_61 (by decide) ?_
      refine aw_istore (npc := 67) (L' := [some (.ref b), some (.int (nI f)), some (.int 3), some (.int 1), some (.int 1), some (.int 0), some (.int 0), none, none, none, none, none]) dX0_termYielded_65 rfl (by decide) rfl rfl ?_
      refine aw_iconst (npc := 68) (v := -1) (by decide) dX0_termYielded_67 rfl ?_
      refine aw_istore (npc := 70) (L' := [some (.ref b), some (.int (nI f)), some (.int 3), some (.int 1), some (.int 1), some (.int 0), some (.int 0), some (.int (-1)), none, none, none, none]) dX0_termYielded_68 rfl (by decide) rfl rfl ?_
      refine aw_iconst (npc := 71) (v := 0) (by decide) dX0_termYielded_70 rfl ?_
      refine aw_istore (npc := 73) (L' := [some (.ref b), some (.int (nI f)), some (.int 3), some (.int 1), some (.int 1), some (.int 0), some (.int 0), some (.int (-1)), some (.int 0), none, none, none]) dX0_termYielded_71 rfl (by decide) rfl rfl ?_
      refine aw_iconst (npc := 74) (v := 0) (by decide) dX0_termYielded_73 rfl ?_
      refine aw_istore (npc := 76) (L' := [some (.ref b), some (.int (nI f)), some (.int 3), some (.int 1), some (.int 1), some (.int 0), some (.int 0), some (.int (-1)), some (.int 0), some (.int 0), none, none]) dX0_termYielded_74 rfl (by decide) rfl rfl ?_
      refine aw_locs (L' := [some (.ref b), some (.int (nI f)), some (.int 3), some (.int 1), some (.int 1), some (.int 0), some (.int 0), some (.int (-1)), some (.int 0), some (.int (nI 0)), none, none]) rfl ?_
      refine g_tyL100 F 4 0 (by omega) (-1) 0 none none ?_
      exact (show ty N f = (tyM 1 0 0 N 4 0 (-1, 0)).1 by simp [ty, tyK, ek, es]) ▸ hq
  · refine aw_top (y := 4) ek ?_
    refine aw_istore_n (npc := 7) (L' := [some (.ref b), some (.int (nI f)), some (.int 4), none, none, none, none, none, none, none, none, none]) dX0_termYielded_6 rfl (by decide) rfl rfl ?_
    refine aw_aload_n (npc := 8) rfl dX0_termYielded_7 rfl ?_
    refine aw_get (npc := 11) dX0_termYielded_8 rfl kf_X0_46 F.1 rfl ?_
    refine aw_iload_n (npc := 12) rfl dX0_termYielded_11 rfl ?_
    refine aw_iald (npc := 13) (x := N (23 + 5 * f)) (j := f) dX0_termYielded_12 rfl F.2.2.2.2.2.1 (am_ix_nI (by omega)) (tl_at (by omega)) ?_
    rcases wi_c0_1 hs with es | es
    · refine aw_top (y := 0) es ?_
      refine aw_istore_n (npc := 14) (L' := [some (.ref b), some (.int (nI f)), some (.int 4), some (.int 0), none, none, none, none, none, none, none, none]) dX0_termYielded_13 rfl (by decide) rfl rfl ?_
      refine aw_iload_n (npc := 15) rfl dX0_termYielded_14 rfl ?_
      refine aw_iconst (npc := 16) (v := 1) (by decide) dX0_termYielded_15 rfl ?_
      refine aw_icmp_eq (npc := 19) (tgt := 29) dX0_termYielded_16 rfl (by decide) (fun hc => absurd hc (by decide)) (fun _ => ?_)
      refine aw_iload_n (npc := 20) rfl dX0_termYielded_19 rfl ?_
      refine aw_iconst (npc := 21) (v := 3) (by decide) dX0_termYielded_20 rfl ?_
      refine aw_icmp_eq (npc := 24) (tgt := 29) dX0_termYielded_21 rfl (by decide) (fun hc => absurd hc (by decide)) (fun _ => ?_)
      refine aw_iload_n (npc := 25) rfl dX0_termYielded_24 rfl ?_
      refine aw_iconst (npc := 26) (v := 4) (by decide) dX0_termYielded_25 rfl ?_
      refine aw_icmp_ne (npc := 29) (tgt := 33) dX0_termYielded_26 rfl (by decide) (fun hc => absurd (by decide) hc) (fun _ => ?_)
      refine aw_iconst (npc := 30) (v := 1) (by decide) dX0_termYielded_29 rfl ?_
      refine aw_goto (npc := 34) dX0_termYielded_30 (by decide) ?_
      refine aw_istore (npc := 36) (L' := [some (.ref b), some (.int (nI f)), some (.int 4), some (.int 0), some (.int 1), none, none, none, none, none, none, none]) dX0_termYielded_34 rfl (by decide) rfl rfl ?_
      refine aw_iload_n (npc := 37) rfl dX0_termYielded_36 rfl ?_
      refine aw_iconst (npc := 38) (v := 4) (by decide) dX0_termYielded_37 rfl ?_
      refine aw_icmp_eq (npc := 41) (tgt := 46) dX0_termYielded_38 rfl (by decide) (fun _ => ?_) (fun hc => absurd (by decide) hc)
      refine aw_iconst (npc := 47) (v := 1) (by decide) dX0_termYielded_46 rfl ?_
      refine aw_goto (npc := 51) dX0_termYielded_47 (by decide) ?_
      refine aw_istore (npc := 53) (L' := [some (.ref b), some (.int (nI f)), some (.int 4), some (.int 0), some (.int 1), some (.int 1), none, none, none, none, none, none]) dX0_termYielded_51 rfl (by decide) rfl rfl ?_
      refine aw_iload (npc := 55) rfl dX0_termYielded_53 rfl ?_
      refine aw_if_eq (npc := 58) (tgt := 64) dX0_termYielded_55 rfl (by decide) (fun hc => absurd hc (by decide)) (fun _ => ?_)
      refine aw_iconst (npc := 59) (v := 1) (by decide) dX0_termYielded_58 rfl ?_
      refine aw_iload_n (npc := 60) rfl dX0_termYielded_59 rfl ?_
      refine aw_isubV (npc := 61) (v := 1) dX0_termYielded_60 rfl (by decide) ?_
      refine aw_goto (npc := 65) dX0_termYielded_61 (by decide) ?_
      refine aw_istore (npc := 67) (L' := [some (.ref b), some (.int (nI f)), some (.int 4), some (.int 0), some (.int 1), some (.int 1), some (.int 1), none, none, none, none, none]) dX0_termYielded_65 rfl (by decide) rfl rfl ?_
      refine aw_iconst (npc := 68) (v := -1) (by decide) dX0_termYielded_67 rfl ?_
      refine aw_istore (npc := 70) (L' := [some (.ref b), some (.int (nI f)), some (.int 4), some (.int 0), some (.int 1), some (.int 1), some (.int 1), some (.int (-1)), none, none, none, none]) dX0_termYielded_68 rfl (by decide) rfl rfl ?_
      refine aw_iconst (npc := 71) (v := 0) (by decide) dX0_termYielded_70 rfl ?_
      refine aw_istore (npc := 73) (L' := [some (.ref b), some (.int (nI f)), some (.int 4), some (.int 0), some (.int 1), some (.int 1), some (.int 1), some (.int (-1)), some (.int 0), none, none, none]) dX0_termYielded_71 rfl (by decide) rfl rfl ?_
      refine aw_iconst (npc := 74) (v := 0) (by decide) dX0_termYielded_73 rfl ?_
      refine aw_istore (npc := 76) (L' := [some (.ref b), some (.int (nI f)), some (.int 4), some (.int 0), some (.int 1), some (.int 1), some (.int 1), some (.int (-1)), some (.int 0), some (.int 0), none, none]) dX0_termYielded_74 rfl (by decide) rfl rfl ?_
      refine aw_locs (L' := [some (.ref b), some (.int (nI f)), some (.int 4), some (.int 0), some (.int 1), some (.int 1), some (.int 1), some (.int (-1)), some (.int 0), some (.int (nI 0)), none, none]) rfl ?_
      refine g_tyL011 F 4 0 (by omega) (-1) 0 none none ?_
      exact (show ty N f = (tyM 0 1 4 N 4 0 (-1, 0)).1 by simp [ty, tyK, ek, es]) ▸ hq
    · refine aw_top (y := 1) es ?_
      refine aw_istore_n (npc := 14) (L' := [some (.ref b), some (.int (nI f)), some (.int 4), some (.int 1), none, none, none, none, none, none, none, none]) dX0_termYielded_13 rfl (by decide) rfl rfl ?_
      refine aw_iload_n (npc := 15) rfl dX0_termYielded_14 rfl ?_
      refine aw_iconst (npc := 16) (v := 1) (by decide) dX0_termYielded_15 rfl ?_
      refine aw_icmp_eq (npc := 19) (tgt := 29) dX0_termYielded_16 rfl (by decide) (fun hc => absurd hc (by decide)) (fun _ => ?_)
      refine aw_iload_n (npc := 20) rfl dX0_termYielded_19 rfl ?_
      refine aw_iconst (npc := 21) (v := 3) (by decide) dX0_termYielded_20 rfl ?_
      refine aw_icmp_eq (npc := 24) (tgt := 29) dX0_termYielded_21 rfl (by decide) (fun hc => absurd hc (by decide)) (fun _ => ?_)
      refine aw_iload_n (npc := 25) rfl dX0_termYielded_24 rfl ?_
      refine aw_iconst (npc := 26) (v := 4) (by decide) dX0_termYielded_25 rfl ?_
      refine aw_icmp_ne (npc := 29) (tgt := 33) dX0_termYielded_26 rfl (by decide) (fun hc => absurd (by decide) hc) (fun _ => ?_)
      refine aw_iconst (npc := 30) (v := 1) (by decide) dX0_termYielded_29 rfl ?_
      refine aw_goto (npc := 34) dX0_termYielded_30 (by decide) ?_
      refine aw_istore (npc := 36) (L' := [some (.ref b), some (.int (nI f)), some (.int 4), some (.int 1), some (.int 1), none, none, none, none, none, none, none]) dX0_termYielded_34 rfl (by decide) rfl rfl ?_
      refine aw_iload_n (npc := 37) rfl dX0_termYielded_36 rfl ?_
      refine aw_iconst (npc := 38) (v := 4) (by decide) dX0_termYielded_37 rfl ?_
      refine aw_icmp_eq (npc := 41) (tgt := 46) dX0_termYielded_38 rfl (by decide) (fun _ => ?_) (fun hc => absurd (by decide) hc)
      refine aw_iconst (npc := 47) (v := 1) (by decide) dX0_termYielded_46 rfl ?_
      refine aw_goto (npc := 51) dX0_termYielded_47 (by decide) ?_
      refine aw_istore (npc := 53) (L' := [some (.ref b), some (.int (nI f)), some (.int 4), some (.int 1), some (.int 1), some (.int 1), none, none, none, none, none, none]) dX0_termYielded_51 rfl (by decide) rfl rfl ?_
      refine aw_iload (npc := 55) rfl dX0_termYielded_53 rfl ?_
      refine aw_if_eq (npc := 58) (tgt := 64) dX0_termYielded_55 rfl (by decide) (fun hc => absurd hc (by decide)) (fun _ => ?_)
      refine aw_iconst (npc := 59) (v := 1) (by decide) dX0_termYielded_58 rfl ?_
      refine aw_iload_n (npc := 60) rfl dX0_termYielded_59 rfl ?_
      refine aw_isubV (npc := 61) (v := 0) dX0_termYielded_60 rfl (by decide) ?_
      refine aw_goto (npc := 65) dX0_termYielded_61 (by decide) ?_
      refine aw_istore (npc := 67) (L' := [some (.ref b), some (.int (nI f)), some (.int 4), some (.int 1), some (.int 1), some (.int 1), some (.int 0), none, none, none, none, none]) dX0_termYielded_65 rfl (by decide) rfl rfl ?_
      refine aw_iconst (npc := 68) (v := -1) (by decide) dX0_termYielded_67 rfl ?_
      refine aw_istore (npc := 70) (L' := [some (.ref b), some (.int (nI f)), some (.int 4), some (.int 1), some (.int 1), some (.int 1), some (.int 0), some (.int (-1)), none, none, none, none]) dX0_termYielded_68 rfl (by decide) rfl rfl ?_
      refine aw_iconst (npc := 71) (v := 0) (by decide) dX0_termYielded_70 rfl ?_
      refine aw_istore (npc := 73) (L' := [some (.ref b), some (.int (nI f)), some (.int 4), some (.int 1), some (.int 1), some (.int 1), some (.int 0), some (.int (-1)), some (.int 0), none, none, none]) dX0_termYielded_71 rfl (by decide) rfl rfl ?_
      refine aw_iconst (npc := 74) (v := 0) (by decide) dX0_termYielded_73 rfl ?_
      refine aw_istore (npc := 76) (L' := [some (.ref b), some (.int (nI f)), some (.int 4), some (.int 1), some (.int 1), some (.int 1), some (.int 0), some (.int (-1)), some (.int 0), some (.int 0), none, none]) dX0_termYielded_74 rfl (by decide) rfl rfl ?_
      refine aw_locs (L' := [some (.ref b), some (.int (nI f)), some (.int 4), some (.int 1), some (.int 1), some (.int 1), some (.int 0), some (.int (-1)), some (.int 0), some (.int (nI 0)), none, none]) rfl ?_
      refine g_tyL110 F 4 0 (by omega) (-1) 0 none none ?_
      exact (show ty N f = (tyM 1 1 0 N 4 0 (-1, 0)).1 by simp [ty, tyK, ek, es]) ▸ hq
  · refine aw_top (y := 5) ek ?_
    refine aw_istore_n (npc := 7) (L' := [some (.ref b), some (.int (nI f)), some (.int 5), none, none, none, none, none, none, none, none, none]) dX0_termYielded_6 rfl (by decide) rfl rfl ?_
    refine aw_aload_n (npc := 8) rfl dX0_termYielded_7 rfl ?_
    refine aw_get (npc := 11) dX0_termYielded_8 rfl kf_X0_46 F.1 rfl ?_
    refine aw_iload_n (npc := 12) rfl dX0_termYielded_11 rfl ?_
    refine aw_iald (npc := 13) (x := N (23 + 5 * f)) (j := f) dX0_termYielded_12 rfl F.2.2.2.2.2.1 (am_ix_nI (by omega)) (tl_at (by omega)) ?_
    rcases wi_c0_1 hs with es | es
    · refine aw_top (y := 0) es ?_
      refine aw_istore_n (npc := 14) (L' := [some (.ref b), some (.int (nI f)), some (.int 5), some (.int 0), none, none, none, none, none, none, none, none]) dX0_termYielded_13 rfl (by decide) rfl rfl ?_
      refine aw_iload_n (npc := 15) rfl dX0_termYielded_14 rfl ?_
      refine aw_iconst (npc := 16) (v := 1) (by decide) dX0_termYielded_15 rfl ?_
      refine aw_icmp_eq (npc := 19) (tgt := 29) dX0_termYielded_16 rfl (by decide) (fun hc => absurd hc (by decide)) (fun _ => ?_)
      refine aw_iload_n (npc := 20) rfl dX0_termYielded_19 rfl ?_
      refine aw_iconst (npc := 21) (v := 3) (by decide) dX0_termYielded_20 rfl ?_
      refine aw_icmp_eq (npc := 24) (tgt := 29) dX0_termYielded_21 rfl (by decide) (fun hc => absurd hc (by decide)) (fun _ => ?_)
      refine aw_iload_n (npc := 25) rfl dX0_termYielded_24 rfl ?_
      refine aw_iconst (npc := 26) (v := 4) (by decide) dX0_termYielded_25 rfl ?_
      refine aw_icmp_ne (npc := 29) (tgt := 33) dX0_termYielded_26 rfl (by decide) (fun _ => ?_) (fun hc => absurd hc (by decide))
      refine aw_iconst (npc := 34) (v := 0) (by decide) dX0_termYielded_33 rfl ?_
      refine aw_istore (npc := 36) (L' := [some (.ref b), some (.int (nI f)), some (.int 5), some (.int 0), some (.int 0), none, none, none, none, none, none, none]) dX0_termYielded_34 rfl (by decide) rfl rfl ?_
      refine aw_iload_n (npc := 37) rfl dX0_termYielded_36 rfl ?_
      refine aw_iconst (npc := 38) (v := 4) (by decide) dX0_termYielded_37 rfl ?_
      refine aw_icmp_eq (npc := 41) (tgt := 46) dX0_termYielded_38 rfl (by decide) (fun hc => absurd hc (by decide)) (fun _ => ?_)
      refine aw_iload_n (npc := 42) rfl dX0_termYielded_41 rfl ?_
      refine aw_iconst (npc := 43) (v := 5) (by decide) dX0_termYielded_42 rfl ?_
      refine aw_icmp_ne (npc := 46) (tgt := 50) dX0_termYielded_43 rfl (by decide) (fun hc => absurd (by decide) hc) (fun _ => ?_)
      refine aw_iconst (npc := 47) (v := 1) (by decide) dX0_termYielded_46 rfl ?_
      refine aw_goto (npc := 51) dX0_termYielded_47 (by decide) ?_
      refine aw_istore (npc := 53) (L' := [some (.ref b), some (.int (nI f)), some (.int 5), some (.int 0), some (.int 0), some (.int 1), none, none, none, none, none, none]) dX0_termYielded_51 rfl (by decide) rfl rfl ?_
      refine aw_iload (npc := 55) rfl dX0_termYielded_53 rfl ?_
      refine aw_if_eq (npc := 58) (tgt := 64) dX0_termYielded_55 rfl (by decide) (fun _ => ?_) (fun hc => absurd (by decide) hc)
      refine aw_iload_n (npc := 65) rfl dX0_termYielded_64 rfl ?_
      refine aw_istore (npc := 67) (L' := [some (.ref b), some (.int (nI f)), some (.int 5), some (.int 0), some (.int 0), some (.int 1), some (.int 0), none, none, none, none, none]) dX0_termYielded_65 rfl (by decide) rfl rfl ?_
      refine aw_iconst (npc := 68) (v := -1) (by decide) dX0_termYielded_67 rfl ?_
      refine aw_istore (npc := 70) (L' := [some (.ref b), some (.int (nI f)), some (.int 5), some (.int 0), some (.int 0), some (.int 1), some (.int 0), some (.int (-1)), none, none, none, none]) dX0_termYielded_68 rfl (by decide) rfl rfl ?_
      refine aw_iconst (npc := 71) (v := 0) (by decide) dX0_termYielded_70 rfl ?_
      refine aw_istore (npc := 73) (L' := [some (.ref b), some (.int (nI f)), some (.int 5), some (.int 0), some (.int 0), some (.int 1), some (.int 0), some (.int (-1)), some (.int 0), none, none, none]) dX0_termYielded_71 rfl (by decide) rfl rfl ?_
      refine aw_iconst (npc := 74) (v := 0) (by decide) dX0_termYielded_73 rfl ?_
      refine aw_istore (npc := 76) (L' := [some (.ref b), some (.int (nI f)), some (.int 5), some (.int 0), some (.int 0), some (.int 1), some (.int 0), some (.int (-1)), some (.int 0), some (.int 0), none, none]) dX0_termYielded_74 rfl (by decide) rfl rfl ?_
      refine aw_locs (L' := [some (.ref b), some (.int (nI f)), some (.int 5), some (.int 0), some (.int 0), some (.int 1), some (.int 0), some (.int (-1)), some (.int 0), some (.int (nI 0)), none, none]) rfl ?_
      refine g_tyL010 F 4 0 (by omega) (-1) 0 none none ?_
      exact (show ty N f = (tyM 0 1 0 N 4 0 (-1, 0)).1 by simp [ty, tyK, ek, es]) ▸ hq
    · refine aw_top (y := 1) es ?_
      refine aw_istore_n (npc := 14) (L' := [some (.ref b), some (.int (nI f)), some (.int 5), some (.int 1), none, none, none, none, none, none, none, none]) dX0_termYielded_13 rfl (by decide) rfl rfl ?_
      refine aw_iload_n (npc := 15) rfl dX0_termYielded_14 rfl ?_
      refine aw_iconst (npc := 16) (v := 1) (by decide) dX0_termYielded_15 rfl ?_
      refine aw_icmp_eq (npc := 19) (tgt := 29) dX0_termYielded_16 rfl (by decide) (fun hc => absurd hc (by decide)) (fun _ => ?_)
      refine aw_iload_n (npc := 20) rfl dX0_termYielded_19 rfl ?_
      refine aw_iconst (npc := 21) (v := 3) (by decide) dX0_termYielded_20 rfl ?_
      refine aw_icmp_eq (npc := 24) (tgt := 29) dX0_termYielded_21 rfl (by decide) (fun hc => absurd hc (by decide)) (fun _ => ?_)
      refine aw_iload_n (npc := 25) rfl dX0_termYielded_24 rfl ?_
      refine aw_iconst (npc := 26) (v := 4) (by decide) dX0_termYielded_25 rfl ?_
      refine aw_icmp_ne (npc := 29) (tgt := 33) dX0_termYielded_26 rfl (by decide) (fun _ => ?_) (fun hc => absurd hc (by decide))
      refine aw_iconst (npc := 34) (v := 0) (by decide) dX0_termYielded_33 rfl ?_
      refine aw_istore (npc := 36) (L' := [some (.ref b), some (.int (nI f)), some (.int 5), some (.int 1), some (.int 0), none, none, none, none, none, none, none]) dX0_termYielded_34 rfl (by decide) rfl rfl ?_
      refine aw_iload_n (npc := 37) rfl dX0_termYielded_36 rfl ?_
      refine aw_iconst (npc := 38) (v := 4) (by decide) dX0_termYielded_37 rfl ?_
      refine aw_icmp_eq (npc := 41) (tgt := 46) dX0_termYielded_38 rfl (by decide) (fun hc => absurd hc (by decide)) (fun _ => ?_)
      refine aw_iload_n (npc := 42) rfl dX0_termYielded_41 rfl ?_
      refine aw_iconst (npc := 43) (v := 5) (by decide) dX0_termYielded_42 rfl ?_
      refine aw_icmp_ne (npc := 46) (tgt := 50) dX0_termYielded_43 rfl (by decide) (fun hc => absurd (by decide) hc) (fun _ => ?_)
      refine aw_iconst (npc := 47) (v := 1) (by decide) dX0_termYielded_46 rfl ?_
      refine aw_goto (npc := 51) dX0_termYielded_47 (by decide) ?_
      refine aw_istore (npc := 53) (L' := [some (.ref b), some (.int (nI f)), some (.int 5), some (.int 1), some (.int 0), some (.int 1), none, none, none, none, none, none]) dX0_termYielded_51 rfl (by decide) rfl rfl ?_
      refine aw_iload (npc := 55) rfl dX0_termYielded_53 rfl ?_
      refine aw_if_eq (npc := 58) (tgt := 64) dX0_termYielded_55 rfl (by decide) (fun _ => ?_) (fun hc => absurd (by decide) hc)
      refine aw_iload_n (npc := 65) rfl dX0_termYielded_64 rfl ?_
      refine aw_istore (npc := 67) (L' := [some (.ref b), some (.int (nI f)), some (.int 5), some (.int 1), some (.int 0), some (.int 1), some (.int 1), none, none, none, none, none]) dX0_termYielded_65 rfl (by decide) rfl rfl ?_
      refine aw_iconst (npc := 68) (v := -1) (by decide) dX0_termYielded_67 rfl ?_
      refine aw_istore (npc := 70) (L' := [some (.ref b), some (.int (nI f)), some (.int 5), some (.int 1), some (.int 0), some (.int 1), some (.int 1), some (.int (-1)), none, none, none, none]) dX0_termYielded_68 rfl (by decide) rfl rfl ?_
      refine aw_iconst (npc := 71) (v := 0) (by decide) dX0_termYielded_70 rfl ?_
      refine aw_istore (npc := 73) (L' := [some (.ref b), some (.int (nI f)), some (.int 5), some (.int 1), some (.int 0), some (.int 1), some (.int 1), some (.int (-1)), some (.int 0), none, none, none]) dX0_termYielded_71 rfl (by decide) rfl rfl ?_
      refine aw_iconst (npc := 74) (v := 0) (by decide) dX0_termYielded_73 rfl ?_
      refine aw_istore (npc := 76) (L' := [some (.ref b), some (.int (nI f)), some (.int 5), some (.int 1), some (.int 0), some (.int 1), some (.int 1), some (.int (-1)), some (.int 0), some (.int 0), none, none]) dX0_termYielded_74 rfl (by decide) rfl rfl ?_
      refine aw_locs (L' := [some (.ref b), some (.int (nI f)), some (.int 5), some (.int 1), some (.int 0), some (.int 1), some (.int 1), some (.int (-1)), some (.int 0), some (.int (nI 0)), none, none]) rfl ?_
      refine g_tyL111 F 4 0 (by omega) (-1) 0 none none ?_
      exact (show ty N f = (tyM 1 1 4 N 4 0 (-1, 0)).1 by simp [ty, tyK, ek, es]) ▸ hq
