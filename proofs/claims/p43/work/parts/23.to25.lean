theorem wi_c0_5 {x : Int32} (h : wi x 0 5) : x = 0 ∨ x = 1 ∨ x = 2 ∨ x = 3 ∨ x = 4 ∨ x = 5 := by
  have h1 : ¬ x.toInt < 0 := fun q => h.1 (Int32.lt_iff_toInt_lt.mpr (by simpa using q))
  have h2 : ¬ 5 < x.toInt := fun q => h.2 (Int32.lt_iff_toInt_lt.mpr (by simpa using q))
  rcases (show x.toInt = 0 ∨ x.toInt = 1 ∨ x.toInt = 2 ∨ x.toInt = 3 ∨ x.toInt = 4 ∨ x.toInt = 5 by omega) with q | q | q | q | q | q
  · exact Or.inl (Int32.toInt_inj.mp (by rw [q]; rfl))
  · exact Or.inr (Or.inl (Int32.toInt_inj.mp (by rw [q]; rfl)))
  · exact Or.inr (Or.inr (Or.inl (Int32.toInt_inj.mp (by rw [q]; rfl))))
  · exact Or.inr (Or.inr (Or.inr (Or.inl (Int32.toInt_inj.mp (by rw [q]; rfl)))))
  · exact Or.inr (Or.inr (Or.inr (Or.inr (Or.inl (Int32.toInt_inj.mp (by rw [q]; rfl))))))
  · exact Or.inr (Or.inr (Or.inr (Or.inr (Or.inr ((Int32.toInt_inj.mp (by rw [q]; rfl)))))))
theorem wi_c0_1 {x : Int32} (h : wi x 0 1) : x = 0 ∨ x = 1 := by
  have h1 : ¬ x.toInt < 0 := fun q => h.1 (Int32.lt_iff_toInt_lt.mpr (by simpa using q))
  have h2 : ¬ 1 < x.toInt := fun q => h.2 (Int32.lt_iff_toInt_lt.mpr (by simpa using q))
  rcases (show x.toInt = 0 ∨ x.toInt = 1 by omega) with q | q
  · exact Or.inl (Int32.toInt_inj.mp (by rw [q]; rfl))
  · exact Or.inr ((Int32.toInt_inj.mp (by rw [q]; rfl)))
theorem wi_c0_3 {x : Int32} (h : wi x 0 3) : x = 0 ∨ x = 1 ∨ x = 2 ∨ x = 3 := by
  have h1 : ¬ x.toInt < 0 := fun q => h.1 (Int32.lt_iff_toInt_lt.mpr (by simpa using q))
  have h2 : ¬ 3 < x.toInt := fun q => h.2 (Int32.lt_iff_toInt_lt.mpr (by simpa using q))
  rcases (show x.toInt = 0 ∨ x.toInt = 1 ∨ x.toInt = 2 ∨ x.toInt = 3 by omega) with q | q | q | q
  · exact Or.inl (Int32.toInt_inj.mp (by rw [q]; rfl))
  · exact Or.inr (Or.inl (Int32.toInt_inj.mp (by rw [q]; rfl)))
  · exact Or.inr (Or.inr (Or.inl (Int32.toInt_inj.mp (by rw [q]; rfl))))
  · exact Or.inr (Or.inr (Or.inr ((Int32.toInt_inj.mp (by rw [q]; rfl)))))
theorem wi_c0_4 {x : Int32} (h : wi x 0 4) : x = 0 ∨ x = 1 ∨ x = 2 ∨ x = 3 ∨ x = 4 := by
  have h1 : ¬ x.toInt < 0 := fun q => h.1 (Int32.lt_iff_toInt_lt.mpr (by simpa using q))
  have h2 : ¬ 4 < x.toInt := fun q => h.2 (Int32.lt_iff_toInt_lt.mpr (by simpa using q))
  rcases (show x.toInt = 0 ∨ x.toInt = 1 ∨ x.toInt = 2 ∨ x.toInt = 3 ∨ x.toInt = 4 by omega) with q | q | q | q | q
  · exact Or.inl (Int32.toInt_inj.mp (by rw [q]; rfl))
  · exact Or.inr (Or.inl (Int32.toInt_inj.mp (by rw [q]; rfl)))
  · exact Or.inr (Or.inr (Or.inl (Int32.toInt_inj.mp (by rw [q]; rfl))))
  · exact Or.inr (Or.inr (Or.inr (Or.inl (Int32.toInt_inj.mp (by rw [q]; rfl)))))
  · exact Or.inr (Or.inr (Or.inr (Or.inr ((Int32.toInt_inj.mp (by rw [q]; rfl))))))
theorem wi_c0_2 {x : Int32} (h : wi x 0 2) : x = 0 ∨ x = 1 ∨ x = 2 := by
  have h1 : ¬ x.toInt < 0 := fun q => h.1 (Int32.lt_iff_toInt_lt.mpr (by simpa using q))
  have h2 : ¬ 2 < x.toInt := fun q => h.2 (Int32.lt_iff_toInt_lt.mpr (by simpa using q))
  rcases (show x.toInt = 0 ∨ x.toInt = 1 ∨ x.toInt = 2 by omega) with q | q | q
  · exact Or.inl (Int32.toInt_inj.mp (by rw [q]; rfl))
  · exact Or.inr (Or.inl (Int32.toInt_inj.mp (by rw [q]; rfl)))
  · exact Or.inr (Or.inr ((Int32.toInt_inj.mp (by rw [q]; rfl))))
theorem wi_ge0 {x hi : Int32} (h : wi x 0 hi) : 0 ≤ x := Int32.not_lt.mp h.1
theorem wi_nI {x lo hi : Int32} {H : Nat} (hH : hi.toInt = H) (hl : 0 ≤ lo) (h : wi x lo hi) : ∃ N : Nat, N ≤ H ∧ x = nI N := by
  refine nI_of2 hH (fun q => h.1 ?_) (Int32.not_lt.mp h.2)
  have a := Int32.lt_iff_toInt_lt.mp q
  have b := Int32.le_iff_toInt_le.mp hl
  exact Int32.lt_iff_toInt_lt.mpr (by have z : (0 : Int32).toInt = 0 := rfl; omega)
theorem wi_idx {x y : Int32} {c : Nat} (hy : y = nI c) (hc : c < 1000) (h : wi x 0 (y - 1)) : ∃ t, t < c ∧ x = nI t := by
  subst hy
  have e : (nI c - 1 : Int32).toInt = (c : Int) - 1 := pk_sub_toInt (a := c) (b := 1) (by omega) (by omega)
  have h1 : ¬ x.toInt < 0 := fun q => h.1 (Int32.lt_iff_toInt_lt.mpr (by simpa using q))
  have h2 : ¬ ((c : Int) - 1) < x.toInt := fun q => h.2 (Int32.lt_iff_toInt_lt.mpr (by rw [e]; exact q))
  refine ⟨x.toInt.toNat, by omega, Int32.toInt_inj.mp ?_⟩
  rw [nI_toInt (by omega)]
  omega
theorem wi_idx' {x y : Int32} {c t : Nat} (hy : y = nI c) (hc : c < 1000) (ht : t < c) (hx : x = nI t) : wi x 0 (y - 1) := by
  subst hy; subst hx
  have e : (nI c - 1 : Int32).toInt = (c : Int) - 1 := pk_sub_toInt (a := c) (b := 1) (by omega) (by omega)
  refine ⟨nI_pos (by omega), fun q => ?_⟩
  have q1 := Int32.lt_iff_toInt_lt.mp q
  rw [e, nI_toInt (by omega)] at q1
  omega
abbrev TB : Type := Nat × (Nat → Int32) × (Nat → Int32) × (Nat → Nat) × (Nat → Nat → Int32) × (Nat → Nat)
def TT (tb : TB) (h : am_H) : Prop := ∀ a, a < tb.1 → h (92 + 3 * a) = some (.inr (5, [.int (tb.2.1 a), .int (tb.2.2.1 a), .ref (93 + 3 * a), .ref (94 + 3 * a)])) ∧ h (93 + 3 * a) = some (.inl (0, tl (tb.2.2.2.1 a) (tb.2.2.2.2.1 a))) ∧ (∃ sf, h (94 + 3 * a) = some (.inl (0, tl (tb.2.2.2.2.2 a) sf))) ∧ tb.2.2.2.1 a < 1000 ∧ tb.2.2.2.2.2 a < 1000 ∧ 0 < tb.2.2.2.2.2 a
theorem tt_frame {tb : TB} {h h' : am_H} (F : TT tb h) (hf : ∀ k, 92 ≤ k → h' k = h k) : TT tb h' := fun a ha => by
  obtain ⟨f0, f1, ⟨sf, f2⟩, f3⟩ := F a ha
  exact ⟨(hf _ (by omega)).trans f0, (hf _ (by omega)).trans f1, ⟨sf, (hf _ (by omega)).trans f2⟩, f3⟩
theorem tt_out {tb : TB} {h : am_H} {k : Nat} {c : am_AC} (hk : k < 92) (F : TT tb h) : TT tb (am_up h k c) := tt_frame F (fun j hj => am_nE (by omega))
theorem tt_stack {tb : TB} {h : am_H} {a : Nat} {sf : Nat → Int32} (F : TT tb h) : TT tb (am_up h (94 + 3 * a) (.inl (0, tl (tb.2.2.2.2.2 a) sf))) := fun q hq => by
  obtain ⟨f0, f1, ⟨sf2, f2⟩, f3⟩ := F q hq
  refine ⟨am_ne (by omega) f0, am_ne (by omega) f1, ?_, f3⟩
  by_cases e : q = a
  · subst e; exact ⟨sf, am_eq⟩
  · exact ⟨sf2, am_ne (by omega) f2⟩
def TXv (T c : Nat) (tx : List Value) : Prop := tx.length = 14 ∧ c ≤ 14 ∧ (∀ (t : Nat) (v : Value), tx[t]? = some v → v = .null ∨ ∃ a, a < T ∧ v = .ref (92 + 3 * a)) ∧ ∀ t : Nat, t < c → ∃ a, a < T ∧ tx[t]? = some (.ref (92 + 3 * a))
def hw (v m : Int32) : Int32 := if 0 ≤ v then (if m < v then m else v) else 0
set_option maxHeartbeats 4000000 in
set_option maxRecDepth 100000 in
theorem g_held {X : List Int32} {d rc rs n : Nat} {Q : am_Q} {h : am_H} {v m : Int32} (hq : Q (some (.int (hw v m))) n h) : AW X mX7_heldWithin (d + 1) rc rs 0 [some (.int v), some (.int m)] [] n h Q := by
  refine aw_iload_n (npc := 1) rfl dX7_heldWithin_0 rfl ?_
  refine aw_if_ge (npc := 4) (tgt := 8) dX7_heldWithin_1 rfl (by decide) (fun hc1 => ?_) (fun hc1 => ?_)
  · refine aw_iload_n (npc := 9) rfl dX7_heldWithin_8 rfl ?_
    refine aw_iload_n (npc := 10) rfl dX7_heldWithin_9 rfl ?_
    refine aw_mmin (npc := 13) dX7_heldWithin_10 rfl kmm_X7_148 kmx_min (Nat.le_of_ble_eq_true rfl) ?_
    refine aw_iret rfl dX7_heldWithin_13 ?_
    exact (show hw v m = (if m < v then m else v) by simp [hw, hc1]) ▸ hq
  · refine aw_iconst (npc := 5) (v := 0) (by decide) dX7_heldWithin_4 rfl ?_
    refine aw_goto (npc := 13) dX7_heldWithin_5 (by decide) ?_
    refine aw_iret rfl dX7_heldWithin_13 ?_
    exact (show hw v m = 0 by simp [hw, hc1]) ▸ hq
set_option maxHeartbeats 4000000 in
set_option maxRecDepth 100000 in
theorem g_textFor0 {X : List Int32} {d rc rs n : Nat} {Q : am_Q} {b : Nat} {N : Nat → Int32} {tx : List Value} {lk mv : Nat → Int32} {h : am_H} {c : Nat} {T : Nat} (F : QR b N tx lk mv h) (hc7 : N 7 = nI c) (hv : TXv T c tx) (k1 : ∀ t a, lk 0 = nI t → t < c → a < T → tx[t]? = some (.ref (92 + 3 * a)) → Q (some (.ref (92 + 3 * a))) n h) (k0 : ¬ wi (lk 0) 0 (N 7 - 1) → Q (some .null) n h) : AW X mX0_textFor (d + 2) rc rs 0 [some (.ref b), some (.int 0), none] [] n h Q := by
  refine aw_aload_n (npc := 1) rfl dX0_textFor_0 rfl ?_
  refine aw_get (npc := 4) dX0_textFor_1 rfl kf_X0_67 F.1 rfl ?_
  refine aw_iload_n (npc := 5) rfl dX0_textFor_4 rfl ?_
  refine aw_iald (npc := 6) (x := lk 0) (j := 0) dX0_textFor_5 rfl F.2.2.2.2.2.2.2.2.2.2.1 ⟨by decide, by decide⟩ (tl_at (by omega)) ?_
  refine aw_istore_n (npc := 7) (L' := [some (.ref b), some (.int 0), some (.int (lk 0))]) dX0_textFor_6 rfl (by decide) rfl rfl ?_
  refine aw_iload_n (npc := 8) rfl dX0_textFor_7 rfl ?_
  refine aw_iconst (npc := 9) (v := 0) (by decide) dX0_textFor_8 rfl ?_
  refine aw_aload_n (npc := 10) rfl dX0_textFor_9 rfl ?_
  refine aw_get (npc := 13) dX0_textFor_10 rfl kf_X0_64 F.1 rfl ?_
  refine aw_iconst (npc := 14) (v := 1) (by decide) dX0_textFor_13 rfl ?_
  refine aw_isub (npc := 15) dX0_textFor_14 rfl ?_
  refine aw_callSN (npc := 18) (N := mX7_within) (mc := 0) (ms := 0) (A := [.int (lk 0), .int 0, .int ((N 7) - 1)]) (S := []) (L0 := [some (.int (lk 0)), some (.int 0), some (.int ((N 7) - 1))]) dX0_textFor_15 rfl km_X7_within kk_X0_79 rfl ⟨rfl, by decide⟩ rfl (Nat.le_of_ble_eq_true rfl) (Nat.zero_add _) (Nat.zero_add _) rfl ?_
  refine c_X7_within (fun hw1 => ?_) (fun hw1 => ?_)
  · refine aw_re (S' := [.int 1]) rfl ?_
    refine aw_if_eq (npc := 21) (tgt := 30) dX0_textFor_18 rfl (by decide) (fun hc => absurd hc (by decide)) (fun _ => ?_)
    obtain ⟨t, ht, hlk⟩ := wi_idx hc7 (by have z := hv.2.1; omega) hw1
    obtain ⟨a, ha, hta⟩ := hv.2.2.2 t ht
    have ht2 := hv.2.1
    refine aw_locs (L' := [some (.ref b), some (.int 0), some (.int (nI t))]) (by rw [hlk]) ?_
    refine aw_aload_n (npc := 22) rfl dX0_textFor_21 rfl ?_
    refine aw_get (npc := 25) dX0_textFor_22 rfl kf_X0_60 F.1 rfl ?_
    refine aw_iload_n (npc := 26) rfl dX0_textFor_25 rfl ?_
    refine aw_aald (npc := 27) (j := t) dX0_textFor_26 rfl (by decide) F.2.2.2.2.2.2.2.2.2.1 (am_ix_nI (by omega)) hta ?_
    refine aw_goto (npc := 31) dX0_textFor_27 (by decide) ?_
    refine aw_aret rfl (Or.inl ⟨_, rfl⟩) dX0_textFor_31 ?_
    exact k1 t a hlk ht ha hta
  · refine aw_re (S' := [.int 0]) rfl ?_
    refine aw_if_eq (npc := 21) (tgt := 30) dX0_textFor_18 rfl (by decide) (fun _ => ?_) (fun hc => absurd (by decide) hc)
    refine aw_null (npc := 31) dX0_textFor_30 rfl ?_
    refine aw_aretN rfl (Or.inl ⟨_, rfl⟩) dX0_textFor_31 ?_
    exact k0 hw1
set_option maxHeartbeats 4000000 in
set_option maxRecDepth 100000 in
theorem g_textFor1 {X : List Int32} {d rc rs n : Nat} {Q : am_Q} {b : Nat} {N : Nat → Int32} {tx : List Value} {lk mv : Nat → Int32} {h : am_H} {c : Nat} {T : Nat} (F : QR b N tx lk mv h) (hc7 : N 7 = nI c) (hv : TXv T c tx) (k1 : ∀ t a, lk 1 = nI t → t < c → a < T → tx[t]? = some (.ref (92 + 3 * a)) → Q (some (.ref (92 + 3 * a))) n h) (k0 : ¬ wi (lk 1) 0 (N 7 - 1) → Q (some .null) n h) : AW X mX0_textFor (d + 2) rc rs 0 [some (.ref b), some (.int 1), none] [] n h Q := by
  refine aw_aload_n (npc := 1) rfl dX0_textFor_0 rfl ?_
  refine aw_get (npc := 4) dX0_textFor_1 rfl kf_X0_67 F.1 rfl ?_
  refine aw_iload_n (npc := 5) rfl dX0_textFor_4 rfl ?_
  refine aw_iald (npc := 6) (x := lk 1) (j := 1) dX0_textFor_5 rfl F.2.2.2.2.2.2.2.2.2.2.1 ⟨by decide, by decide⟩ (tl_at (by omega)) ?_
  refine aw_istore_n (npc := 7) (L' := [some (.ref b), some (.int 1), some (.int (lk 1))]) dX0_textFor_6 rfl (by decide) rfl rfl ?_
  refine aw_iload_n (npc := 8) rfl dX0_textFor_7 rfl ?_
  refine aw_iconst (npc := 9) (v := 0) (by decide) dX0_textFor_8 rfl ?_
  refine aw_aload_n (npc := 10) rfl dX0_textFor_9 rfl ?_
  refine aw_get (npc := 13) dX0_textFor_10 rfl kf_X0_64 F.1 rfl ?_
  refine aw_iconst (npc := 14) (v := 1) (by decide) dX0_textFor_13 rfl ?_
  refine aw_isub (npc := 15) dX0_textFor_14 rfl ?_
  refine aw_callSN (npc := 18) (N := mX7_within) (mc := 0) (ms := 0) (A := [.int (lk 1), .int 0, .int ((N 7) - 1)]) (S := []) (L0 := [some (.int (lk 1)), some (.int 0), some (.int ((N 7) - 1))]) dX0_textFor_15 rfl km_X7_within kk_X0_79 rfl ⟨rfl, by decide⟩ rfl (Nat.le_of_ble_eq_true rfl) (Nat.zero_add _) (Nat.zero_add _) rfl ?_
  refine c_X7_within (fun hw1 => ?_) (fun hw1 => ?_)
  · refine aw_re (S' := [.int 1]) rfl ?_
    refine aw_if_eq (npc := 21) (tgt := 30) dX0_textFor_18 rfl (by decide) (fun hc => absurd hc (by decide)) (fun _ => ?_)
    obtain ⟨t, ht, hlk⟩ := wi_idx hc7 (by have z := hv.2.1; omega) hw1
    obtain ⟨a, ha, hta⟩ := hv.2.2.2 t ht
    have ht2 := hv.2.1
    refine aw_locs (L' := [some (.ref b), some (.int 1), some (.int (nI t))]) (by rw [hlk]) ?_
    refine aw_aload_n (npc := 22) rfl dX0_textFor_21 rfl ?_
    refine aw_get (npc := 25) dX0_textFor_22 rfl kf_X0_60 F.1 rfl ?_
    refine aw_iload_n (npc := 26) rfl dX0_textFor_25 rfl ?_
    refine aw_aald (npc := 27) (j := t) dX0_textFor_26 rfl (by decide) F.2.2.2.2.2.2.2.2.2.1 (am_ix_nI (by omega)) hta ?_
    refine aw_goto (npc := 31) dX0_textFor_27 (by decide) ?_
    refine aw_aret rfl (Or.inl ⟨_, rfl⟩) dX0_textFor_31 ?_
    exact k1 t a hlk ht ha hta
  · refine aw_re (S' := [.int 0]) rfl ?_
    refine aw_if_eq (npc := 21) (tgt := 30) dX0_textFor_18 rfl (by decide) (fun _ => ?_) (fun hc => absurd (by decide) hc)
    refine aw_null (npc := 31) dX0_textFor_30 rfl ?_
    refine aw_aretN rfl (Or.inl ⟨_, rfl⟩) dX0_textFor_31 ?_
    exact k0 hw1
set_option maxHeartbeats 4000000 in
set_option maxRecDepth 100000 in
theorem g_textFor2 {X : List Int32} {d rc rs n : Nat} {Q : am_Q} {b : Nat} {N : Nat → Int32} {tx : List Value} {lk mv : Nat → Int32} {h : am_H} {c : Nat} {T : Nat} (F : QR b N tx lk mv h) (hc7 : N 7 = nI c) (hv : TXv T c tx) (k1 : ∀ t a, lk 2 = nI t → t < c → a < T → tx[t]? = some (.ref (92 + 3 * a)) → Q (some (.ref (92 + 3 * a))) n h) (k0 : ¬ wi (lk 2) 0 (N 7 - 1) → Q (some .null) n h) : AW X mX0_textFor (d + 2) rc rs 0 [some (.ref b), some (.int 2), none] [] n h Q := by
  refine aw_aload_n (npc := 1) rfl dX0_textFor_0 rfl ?_
  refine aw_get (npc := 4) dX0_textFor_1 rfl kf_X0_67 F.1 rfl ?_
  refine aw_iload_n (npc := 5) rfl dX0_textFor_4 rfl ?_
  refine aw_iald (npc := 6) (x := lk 2) (j := 2) dX0_textFor_5 rfl F.2.2.2.2.2.2.2.2.2.2.1 ⟨by decide, by decide⟩ (tl_at (by omega)) ?_
  refine aw_istore_n (npc := 7) (L' := [some (.ref b), some (.int 2), some (.int (lk 2))]) dX0_textFor_6 rfl (by decide) rfl rfl ?_
  refine aw_iload_n (npc := 8) rfl dX0_textFor_7 rfl ?_
  refine aw_iconst (npc := 9) (v := 0) (by decide) dX0_textFor_8 rfl ?_
  refine aw_aload_n (npc := 10) rfl dX0_textFor_9 rfl ?_
  refine aw_get (npc := 13) dX0_textFor_10 rfl kf_X0_64 F.1 rfl ?_
  refine aw_iconst (npc := 14) (v := 1) (by decide) dX0_textFor_13 rfl ?_
  refine aw_isub (npc := 15) dX0_textFor_14 rfl ?_
  refine aw_callSN (npc := 18) (N := mX7_within) (mc := 0) (ms := 0) (A := [.int (lk 2), .int 0, .int ((N 7) - 1)]) (S := []) (L0 := [some (.int (lk 2)), some (.int 0), some (.int ((N 7) - 1))]) dX0_textFor_15 rfl km_X7_within kk_X0_79 rfl ⟨rfl, by decide⟩ rfl (Nat.le_of_ble_eq_true rfl) (Nat.zero_add _) (Nat.zero_add _) rfl ?_
  refine c_X7_within (fun hw1 => ?_) (fun hw1 => ?_)
  · refine aw_re (S' := [.int 1]) rfl ?_
    refine aw_if_eq (npc := 21) (tgt := 30) dX0_textFor_18 rfl (by decide) (fun hc => absurd hc (by decide)) (fun _ => ?_)
    obtain ⟨t, ht, hlk⟩ := wi_idx hc7 (by have z := hv.2.1; omega) hw1
    obtain ⟨a, ha, hta⟩ := hv.2.2.2 t ht
    have ht2 := hv.2.1
    refine aw_locs (L' := [some (.ref b), some (.int 2), some (.int (nI t))]) (by rw [hlk]) ?_
    refine aw_aload_n (npc := 22) rfl dX0_textFor_21 rfl ?_
    refine aw_get (npc := 25) dX0_textFor_22 rfl kf_X0_60 F.1 rfl ?_
    refine aw_iload_n (npc := 26) rfl dX0_textFor_25 rfl ?_
    refine aw_aald (npc := 27) (j := t) dX0_textFor_26 rfl (by decide) F.2.2.2.2.2.2.2.2.2.1 (am_ix_nI (by omega)) hta ?_
    refine aw_goto (npc := 31) dX0_textFor_27 (by decide) ?_
    refine aw_aret rfl (Or.inl ⟨_, rfl⟩) dX0_textFor_31 ?_
    exact k1 t a hlk ht ha hta
  · refine aw_re (S' := [.int 0]) rfl ?_
    refine aw_if_eq (npc := 21) (tgt := 30) dX0_textFor_18 rfl (by decide) (fun _ => ?_) (fun hc => absurd (by decide) hc)
    refine aw_null (npc := 31) dX0_textFor_30 rfl ?_
    refine aw_aretN rfl (Or.inl ⟨_, rfl⟩) dX0_textFor_31 ?_
    exact k0 hw1
def PLr (tb : TB) (tx : List Value) (lk N : Nat → Int32) (f : Nat) (pl : Int32) : Prop := (¬ wi (lk 0) 0 (N 7 - 1) ∧ pl = (N (24 + 5 * f) + N 3) / 2) ∨ ∃ t a sf, wi (lk 0) 0 (N 7 - 1) ∧ lk 0 = nI t ∧ a < tb.1 ∧ tx[t]? = some (.ref (92 + 3 * a)) ∧ pl = hw ((wcM (N (24 + 5 * f)) (N 3) (N (25 + 5 * f)) (tb.2.2.2.2.2 a) (tb.2.2.2.2.1 a) (tb.2.2.2.1 a) 0 (sf, 0)).1 0) 99
def toneK (k hv pl : Int32) : Int32 := if k = 5 then 0 else if k = 3 then (if hv < 40 then (if 99 < pl + 20 then 99 else pl + 20) else 0) else if k = 1 then (if 99 < pl + 20 then 99 else pl + 20) else if k = 2 then pl / 2 else if k = 4 then (if pl / 2 - 10 < 0 then 0 else pl / 2 - 10) else pl
def TNr (tb : TB) (tx : List Value) (lk N : Nat → Int32) (f : Nat) (τ : Int32) : Prop := ∃ pl, PLr tb tx lk N f pl ∧ τ = toneK (N (22 + 5 * f)) (N 3) pl
set_option maxHeartbeats 4000000 in
set_option maxRecDepth 100000 in
theorem g_plain {X : List Int32} {d rc rs n : Nat} {Q : am_Q} {b : Nat} {N : Nat → Int32} {tx : List Value} {lk mv : Nat → Int32} {h : am_H} {c f : Nat} {tb : TB} (F : QR b N tx lk mv h) (G : TT tb h) (hc7 : N 7 = nI c) (hv : TXv tb.1 c tx) (hf : f < 8) (hb : b + 12 ≤ 92) (hq : ∀ pl h9, PLr tb tx lk N f pl → QR b N tx lk mv h9 → TT tb h9 → am_fb 92 (92 + 3 * tb.1) h9 h → Q (some (.int pl)) n h9) : AW X mX0_plainTone (d + 6) rc rs 0 [some (.ref b), some (.int (nI f)), none] [] n h Q := by
  refine aw_aload_n (npc := 1) rfl dX0_plainTone_0 rfl ?_
  refine aw_iconst (npc := 2) (v := 0) (by decide) dX0_plainTone_1 rfl ?_
  refine aw_callV (npc := 5) (N := mX0_textFor) (b := b) (mc := 0) (ms := 0) (A := [.int 0]) (S := []) (L0 := [some (.ref b), some (.int 0), none]) dX0_plainTone_2 rfl km_X0_textFor kk_X0_106 F.1 ⟨by decide, rfl⟩ rfl ⟨rfl, by decide⟩ rfl (Nat.le_of_ble_eq_true rfl) (Nat.zero_add _) (Nat.zero_add _) rfl ?_
  refine g_textFor0 F hc7 hv (fun t a hlk ht ha hta => ?_) (fun hw0 => ?_)
  · refine aw_re (S' := [.ref (92 + 3 * a)]) rfl ?_
    refine aw_astore_n (npc := 6) (L' := [some (.ref b), some (.int (nI f)), some (.ref (92 + 3 * a))]) dX0_plainTone_5 rfl (by decide) rfl rfl ?_
    refine aw_aload_n (npc := 7) rfl dX0_plainTone_6 rfl ?_
    refine aw_ifnonnull (npc := 24) dX0_plainTone_7 (by decide) ?_
    obtain ⟨t0, t1, ⟨sf, t2⟩, t3, t4, t5⟩ := G a ha
    refine aw_aload_n (npc := 25) rfl dX0_plainTone_24 rfl ?_
    refine aw_aload_n (npc := 26) rfl dX0_plainTone_25 rfl ?_
    refine aw_get (npc := 29) dX0_plainTone_26 rfl kf_X0_49 F.1 rfl ?_
    refine aw_iload_n (npc := 30) rfl dX0_plainTone_29 rfl ?_
    refine aw_iald (npc := 31) (x := N (24 + 5 * f)) (j := f) dX0_plainTone_30 rfl F.2.2.2.2.2.2.1 (am_ix_nI (by omega)) (tl_at (by omega)) ?_
    refine aw_aload_n (npc := 32) rfl dX0_plainTone_31 rfl ?_
    refine aw_get (npc := 35) dX0_plainTone_32 rfl kf_X0_21 F.1 rfl ?_
    refine aw_aload_n (npc := 36) rfl dX0_plainTone_35 rfl ?_
    refine aw_get (npc := 39) dX0_plainTone_36 rfl kf_X0_52 F.1 rfl ?_
    refine aw_iload_n (npc := 40) rfl dX0_plainTone_39 rfl ?_
    refine aw_iald (npc := 41) (x := N (25 + 5 * f)) (j := f) dX0_plainTone_40 rfl F.2.2.2.2.2.2.2.1 (am_ix_nI (by omega)) (tl_at (by omega)) ?_
    refine aw_callV (npc := 44) (N := mX5_workOut) (b := (92 + 3 * a)) (mc := 0) (ms := 0) (A := [.int (N (24 + 5 * f)), .int (N 3), .int (N (25 + 5 * f))]) (S := []) (L0 := [some (.ref (92 + 3 * a)), some (.int (N (24 + 5 * f))), some (.int (N 3)), some (.int (N (25 + 5 * f))), none, none, none]) dX0_plainTone_41 rfl km_X5_workOut kk_X0_110 t0 ⟨by decide, rfl⟩ rfl ⟨rfl, by decide⟩ rfl (Nat.le_of_ble_eq_true rfl) (Nat.zero_add _) (Nat.zero_add _) rfl ?_
    refine g_work (h := h) (a0 := 92 + 3 * a) (a1 := 93 + 3 * a) (a2 := 94 + 3 * a) (by omega) (by omega) t3 t4 t5 t0 t1 t2 (fun sf9 hsf => ?_)
    refine aw_re (S' := [.int (sf9 0)]) rfl ?_
    refine aw_bipush (npc := 46) (v := 99) (by decide) dX0_plainTone_44 rfl ?_
    refine aw_callSN (npc := 49) (N := mX7_heldWithin) (mc := 0) (ms := 0) (A := [.int (sf9 0), .int 99]) (S := []) (L0 := [some (.int (sf9 0)), some (.int 99)]) dX0_plainTone_46 rfl km_X7_heldWithin kk_X0_114 rfl ⟨rfl, by decide⟩ rfl (Nat.le_of_ble_eq_true rfl) (Nat.zero_add _) (Nat.zero_add _) rfl ?_
    refine g_held ?_
    refine aw_re (S' := [.int (hw (sf9 0) 99)]) rfl ?_
    refine aw_iret rfl dX0_plainTone_49 ?_
    refine hq _ _ (Or.inr ⟨t, a, sf, wi_idx' hc7 (by have z := hv.2.1; omega) ht hlk, hlk, ha, hta, by rw [← hsf]⟩) (qr_out (by omega) F) (tt_stack G) (am_fbU (by omega) am_fb0)
  · refine aw_re (S' := [.null]) rfl ?_
    refine aw_astore_nN (npc := 6) (L' := [some (.ref b), some (.int (nI f)), some (.null)]) dX0_plainTone_5 rfl (by decide) rfl rfl ?_
    refine aw_aload_nN (npc := 7) rfl dX0_plainTone_6 rfl ?_
    refine aw_ifnonnullN (npc := 10) dX0_plainTone_7 rfl ?_
    refine aw_aload_n (npc := 11) rfl dX0_plainTone_10 rfl ?_
    refine aw_get (npc := 14) dX0_plainTone_11 rfl kf_X0_49 F.1 rfl ?_
    refine aw_iload_n (npc := 15) rfl dX0_plainTone_14 rfl ?_
    refine aw_iald (npc := 16) (x := N (24 + 5 * f)) (j := f) dX0_plainTone_15 rfl F.2.2.2.2.2.2.1 (am_ix_nI (by omega)) (tl_at (by omega)) ?_
    refine aw_aload_n (npc := 17) rfl dX0_plainTone_16 rfl ?_
    refine aw_get (npc := 20) dX0_plainTone_17 rfl kf_X0_21 F.1 rfl ?_
    refine aw_iadd (npc := 21) dX0_plainTone_20 rfl ?_
    refine aw_iconst (npc := 22) (v := 2) (by decide) dX0_plainTone_21 rfl ?_
    refine aw_idiv (npc := 23) (by decide) dX0_plainTone_22 rfl ?_
    refine aw_iret rfl dX0_plainTone_23 ?_
    exact hq _ _ (Or.inl ⟨hw0, rfl⟩) F G am_fb0
theorem pl_ex {tb : TB} {tx : List Value} {lk N : Nat → Int32} {c f : Nat} {h : am_H} (G : TT tb h) (hc7 : N 7 = nI c) (hv : TXv tb.1 c tx) : ∃ pl, PLr tb tx lk N f pl := by
  by_cases hw0 : wi (lk 0) 0 (N 7 - 1)
  · obtain ⟨t, ht, hlk⟩ := wi_idx hc7 (by have z := hv.2.1; omega) hw0
    obtain ⟨a, ha, hta⟩ := hv.2.2.2 t ht
    exact ⟨_, Or.inr ⟨t, a, fun _ => 0, hw0, hlk, ha, hta, rfl⟩⟩
  · exact ⟨_, Or.inl ⟨hw0, rfl⟩⟩
set_option maxHeartbeats 4000000 in
set_option maxRecDepth 100000 in
theorem g_tone {X : List Int32} {d rc rs n : Nat} {Q : am_Q} {b : Nat} {N : Nat → Int32} {tx : List Value} {lk mv : Nat → Int32} {h : am_H} {c f : Nat} {tb : TB} (F : QR b N tx lk mv h) (G : TT tb h) (hc7 : N 7 = nI c) (hv : TXv tb.1 c tx) (hf : f < 8) (hk : wi (N (22 + 5 * f)) 0 5) (hb : b + 12 ≤ 92) (hq : ∀ τ h9, TNr tb tx lk N f τ → QR b N tx lk mv h9 → TT tb h9 → am_fb 92 (92 + 3 * tb.1) h9 h → Q (some (.int τ)) n h9) : AW X mX0_toneOf (d + 8) rc rs 0 [some (.ref b), some (.int (nI f)), none, none] [] n h Q := by
  refine aw_aload_n (npc := 1) rfl dX0_toneOf_0 rfl ?_
  refine aw_get (npc := 4) dX0_toneOf_1 rfl kf_X0_43 F.1 rfl ?_
  refine aw_iload_n (npc := 5) rfl dX0_toneOf_4 rfl ?_
  refine aw_iald (npc := 6) (x := N (22 + 5 * f)) (j := f) dX0_toneOf_5 rfl F.2.2.2.2.1 (am_ix_nI (by omega)) (tl_at (by omega)) ?_
  rcases wi_c0_5 hk with ek | ek | ek | ek | ek | ek
  · refine aw_top (y := 0) ek ?_
    refine aw_istore_n (npc := 7) (L' := [some (.ref b), some (.int (nI f)), some (.int 0), none]) dX0_toneOf_6 rfl (by decide) rfl rfl ?_
    refine aw_iload_n (npc := 8) rfl dX0_toneOf_7 rfl ?_
    refine aw_iconst (npc := 9) (v := 5) (by decide) dX0_toneOf_8 rfl ?_
    refine aw_icmp_eq (npc := 12) (tgt := 26) dX0_toneOf_9 rfl (by decide) (fun hc => absurd hc (by decide)) (fun _ => ?_)
    refine aw_iload_n (npc := 13) rfl dX0_toneOf_12 rfl ?_
    refine aw_iconst (npc := 14) (v := 3) (by decide) dX0_toneOf_13 rfl ?_
    refine aw_icmp_ne (npc := 17) (tgt := 28) dX0_toneOf_14 rfl (by decide) (fun _ => ?_) (fun hc => absurd hc (by decide))
    refine aw_aload_n (npc := 29) rfl dX0_toneOf_28 rfl ?_
    refine aw_iload_n (npc := 30) rfl dX0_toneOf_29 rfl ?_
    refine aw_callV (npc := 33) (N := mX0_plainTone) (b := b) (mc := 0) (ms := 0) (A := [.int (nI f)]) (S := []) (L0 := [some (.ref b), some (.int (nI f)), none]) dX0_toneOf_30 rfl km_X0_plainTone kk_X0_95 F.1 ⟨by decide, rfl⟩ rfl ⟨rfl, by decide⟩ rfl (Nat.le_of_ble_eq_true rfl) (Nat.zero_add _) (Nat.zero_add _) rfl ?_
    refine g_plain F G hc7 hv hf hb (fun pl h9 hpl F9 G9 fz => ?_)
    refine aw_re (S' := [.int pl]) rfl ?_
    refine aw_istore_n (npc := 34) (L' := [some (.ref b), some (.int (nI f)), some (.int 0), some (.int pl)]) dX0_toneOf_33 rfl (by decide) rfl rfl ?_
    refine aw_iload_n (npc := 35) rfl dX0_toneOf_34 rfl ?_
    refine aw_tableOut (npc := 89) dX0_toneOf_35 (by decide) (by decide) ?_
    refine aw_iload_n (npc := 90) rfl dX0_toneOf_89 rfl ?_
    refine aw_iret rfl dX0_toneOf_90 ?_
    exact hq _ _ ⟨pl, hpl, by simp [toneK, ek]⟩ F9 G9 fz
  · refine aw_top (y := 1) ek ?_
    refine aw_istore_n (npc := 7) (L' := [some (.ref b), some (.int (nI f)), some (.int 1), none]) dX0_toneOf_6 rfl (by decide) rfl rfl ?_
    refine aw_iload_n (npc := 8) rfl dX0_toneOf_7 rfl ?_
    refine aw_iconst (npc := 9) (v := 5) (by decide) dX0_toneOf_8 rfl ?_
    refine aw_icmp_eq (npc := 12) (tgt := 26) dX0_toneOf_9 rfl (by decide) (fun hc => absurd hc (by decide)) (fun _ => ?_)
    refine aw_iload_n (npc := 13) rfl dX0_toneOf_12 rfl ?_
    refine aw_iconst (npc := 14) (v := 3) (by decide) dX0_toneOf_13 rfl ?_
    refine aw_icmp_ne (npc := 17) (tgt := 28) dX0_toneOf_14 rfl (by decide) (fun _ => ?_) (fun hc => absurd hc (by decide))
    refine aw_aload_n (npc := 29) rfl dX0_toneOf_28 rfl ?_
    refine aw_iload_n (npc := 30) rfl dX0_toneOf_29 rfl ?_
    refine aw_callV (npc := 33) (N := mX0_plainTone) (b := b) (mc := 0) (ms := 0) (A := [.int (nI f)]) (S := []) (L0 := [some (.ref b), some (.int (nI f)), none]) dX0_toneOf_30 rfl km_X0_plainTone kk_X0_95 F.1 ⟨by decide, rfl⟩ rfl ⟨rfl, by decide⟩ rfl (Nat.le_of_ble_eq_true rfl) (Nat.zero_add _) (Nat.zero_add _) rfl ?_
    refine g_plain F G hc7 hv hf hb (fun pl h9 hpl F9 G9 fz => ?_)
    refine aw_re (S' := [.int pl]) rfl ?_
    refine aw_istore_n (npc := 34) (L' := [some (.ref b), some (.int (nI f)), some (.int 1), some (.int pl)]) dX0_toneOf_33 rfl (by decide) rfl rfl ?_
    refine aw_iload_n (npc := 35) rfl dX0_toneOf_34 rfl ?_
    refine aw_tableIn (npc := 64) dX0_toneOf_35 (by decide) (by decide) rfl (by decide) ?_
    refine aw_iload_n (npc := 65) rfl dX0_toneOf_64 rfl ?_
    refine aw_bipush (npc := 67) (v := 20) (by decide) dX0_toneOf_65 rfl ?_
    refine aw_iadd (npc := 68) dX0_toneOf_67 rfl ?_
    refine aw_bipush (npc := 70) (v := 99) (by decide) dX0_toneOf_68 rfl ?_
    refine aw_mmin (npc := 73) dX0_toneOf_70 rfl kmm_X0_98 kmx_min (Nat.le_of_ble_eq_true rfl) ?_
    refine aw_iret rfl dX0_toneOf_73 ?_
    exact hq _ _ ⟨pl, hpl, by simp [toneK, ek]⟩ F9 G9 fz
  · refine aw_top (y := 2) ek ?_
    refine aw_istore_n (npc := 7) (L' := [some (.ref b), some (.int (nI f)), some (.int 2), none]) dX0_toneOf_6 rfl (by decide) rfl rfl ?_
    refine aw_iload_n (npc := 8) rfl dX0_toneOf_7 rfl ?_
    refine aw_iconst (npc := 9) (v := 5) (by decide) dX0_toneOf_8 rfl ?_
    refine aw_icmp_eq (npc := 12) (tgt := 26) dX0_toneOf_9 rfl (by decide) (fun hc => absurd hc (by decide)) (fun _ => ?_)
    refine aw_iload_n (npc := 13) rfl dX0_toneOf_12 rfl ?_
    refine aw_iconst (npc := 14) (v := 3) (by decide) dX0_toneOf_13 rfl ?_
    refine aw_icmp_ne (npc := 17) (tgt := 28) dX0_toneOf_14 rfl (by decide) (fun _ => ?_) (fun hc => absurd hc (by decide))
    refine aw_aload_n (npc := 29) rfl dX0_toneOf_28 rfl ?_
    refine aw_iload_n (npc := 30) rfl dX0_toneOf_29 rfl ?_
    refine aw_callV (npc := 33) (N := mX0_plainTone) (b := b) (mc := 0) (ms := 0) (A := [.int (nI f)]) (S := []) (L0 := [some (.ref b), some (.int (nI f)), none]) dX0_toneOf_30 rfl km_X0_plainTone kk_X0_95 F.1 ⟨by decide, rfl⟩ rfl ⟨rfl, by decide⟩ rfl (Nat.le_of_ble_eq_true rfl) (Nat.zero_add _) (Nat.zero_add _) rfl ?_
    refine g_plain F G hc7 hv hf hb (fun pl h9 hpl F9 G9 fz => ?_)
    refine aw_re (S' := [.int pl]) rfl ?_
    refine aw_istore_n (npc := 34) (L' := [some (.ref b), some (.int (nI f)), some (.int 2), some (.int pl)]) dX0_toneOf_33 rfl (by decide) rfl rfl ?_
    refine aw_iload_n (npc := 35) rfl dX0_toneOf_34 rfl ?_
    refine aw_tableIn (npc := 74) dX0_toneOf_35 (by decide) (by decide) rfl (by decide) ?_
    refine aw_iload_n (npc := 75) rfl dX0_toneOf_74 rfl ?_
    refine aw_iconst (npc := 76) (v := 2) (by decide) dX0_toneOf_75 rfl ?_
    refine aw_idiv (npc := 77) (by decide) dX0_toneOf_76 rfl ?_
    refine aw_iret rfl dX0_toneOf_77 ?_
    exact hq _ _ ⟨pl, hpl, by simp [toneK, ek]⟩ F9 G9 fz
  · refine aw_top (y := 3) ek ?_
    refine aw_istore_n (npc := 7) (L' := [some (.ref b), some (.int (nI f)), some (.int 3), none]) dX0_toneOf_6 rfl (by decide) rfl rfl ?_
    refine aw_iload_n (npc := 8) rfl dX0_toneOf_7 rfl ?_
    refine aw_iconst (npc := 9) (v := 5) (by decide) dX0_toneOf_8 rfl ?_
    refine aw_icmp_eq (npc := 12) (tgt := 26) dX0_toneOf_9 rfl (by decide) (fun hc => absurd hc (by decide)) (fun _ => ?_)
    refine aw_iload_n (npc := 13) rfl dX0_toneOf_12 rfl ?_
    refine aw_iconst (npc := 14) (v := 3) (by decide) dX0_toneOf_13 rfl ?_
    refine aw_icmp_ne (npc := 17) (tgt := 28) dX0_toneOf_14 rfl (by decide) (fun hc => absurd (by decide) hc) (fun _ => ?_)
    refine aw_aload_n (npc := 18) rfl dX0_toneOf_17 rfl ?_
    refine aw_get (npc := 21) dX0_toneOf_18 rfl kf_X0_21 F.1 rfl ?_
    refine aw_bipush (npc := 23) (v := 40) (by decide) dX0_toneOf_21 rfl ?_
    refine aw_icmp_lt (npc := 26) (tgt := 28) dX0_toneOf_23 rfl (by decide) (fun hc1 => ?_) (fun hc1 => ?_)
    · refine aw_aload_n (npc := 29) rfl dX0_toneOf_28 rfl ?_
      refine aw_iload_n (npc := 30) rfl dX0_toneOf_29 rfl ?_
      refine aw_callV (npc := 33) (N := mX0_plainTone) (b := b) (mc := 0) (ms := 0) (A := [.int (nI f)]) (S := []) (L0 := [some (.ref b), some (.int (nI f)), none]) dX0_toneOf_30 rfl km_X0_plainTone kk_X0_95 F.1 ⟨by decide, rfl⟩ rfl ⟨rfl, by decide⟩ rfl (Nat.le_of_ble_eq_true rfl) (Nat.zero_add _) (Nat.zero_add _) rfl ?_
      refine g_plain F G hc7 hv hf hb (fun pl h9 hpl F9 G9 fz => ?_)
      refine aw_re (S' := [.int pl]) rfl ?_
      refine aw_istore_n (npc := 34) (L' := [some (.ref b), some (.int (nI f)), some (.int 3), some (.int pl)]) dX0_toneOf_33 rfl (by decide) rfl rfl ?_
      refine aw_iload_n (npc := 35) rfl dX0_toneOf_34 rfl ?_
      refine aw_tableIn (npc := 64) dX0_toneOf_35 (by decide) (by decide) rfl (by decide) ?_
      refine aw_iload_n (npc := 65) rfl dX0_toneOf_64 rfl ?_
      refine aw_bipush (npc := 67) (v := 20) (by decide) dX0_toneOf_65 rfl ?_
      refine aw_iadd (npc := 68) dX0_toneOf_67 rfl ?_
      refine aw_bipush (npc := 70) (v := 99) (by decide) dX0_toneOf_68 rfl ?_
      refine aw_mmin (npc := 73) dX0_toneOf_70 rfl kmm_X0_98 kmx_min (Nat.le_of_ble_eq_true rfl) ?_
      refine aw_iret rfl dX0_toneOf_73 ?_
      exact hq _ _ ⟨pl, hpl, by simp [toneK, ek, hc1]⟩ F9 G9 fz
    · refine aw_iconst (npc := 27) (v := 0) (by decide) dX0_toneOf_26 rfl ?_
      refine aw_iret rfl dX0_toneOf_27 ?_
      obtain ⟨pl, hpl⟩ := pl_ex (lk := lk) (f := f) G hc7 hv
      exact hq _ _ ⟨pl, hpl, by simp [toneK, ek, hc1]⟩ F G am_fb0
  · refine aw_top (y := 4) ek ?_
    refine aw_istore_n (npc := 7) (L' := [some (.ref b), some (.int (nI f)), some (.int 4), none]) dX0_toneOf_6 rfl (by decide) rfl rfl ?_
    refine aw_iload_n (npc := 8) rfl dX0_toneOf_7 rfl ?_
    refine aw_iconst (npc := 9) (v := 5) (by decide) dX0_toneOf_8 rfl ?_
    refine aw_icmp_eq (npc := 12) (tgt := 26) dX0_toneOf_9 rfl (by decide) (fun hc => absurd hc (by decide)) (fun _ => ?_)
    refine aw_iload_n (npc := 13) rfl dX0_toneOf_12 rfl ?_
    refine aw_iconst (npc := 14) (v := 3) (by decide) dX0_toneOf_13 rfl ?_
    refine aw_icmp_ne (npc := 17) (tgt := 28) dX0_toneOf_14 rfl (by decide) (fun _ => ?_) (fun hc => absurd hc (by decide))
    refine aw_aload_n (npc := 29) rfl dX0_toneOf_28 rfl ?_
    refine aw_iload_n (npc := 30) rfl dX0_toneOf_29 rfl ?_
    refine aw_callV (npc := 33) (N := mX0_plainTone) (b := b) (mc := 0) (ms := 0) (A := [.int (nI f)]) (S := []) (L0 := [some (.ref b), some (.int (nI f)), none]) dX0_toneOf_30 rfl km_X0_plainTone kk_X0_95 F.1 ⟨by decide, rfl⟩ rfl ⟨rfl, by decide⟩ rfl (Nat.le_of_ble_eq_true rfl) (Nat.zero_add _) (Nat.zero_add _) rfl ?_
    refine g_plain F G hc7 hv hf hb (fun pl h9 hpl F9 G9 fz => ?_)
    refine aw_re (S' := [.int pl]) rfl ?_
    refine aw_istore_n (npc := 34) (L' := [some (.ref b), some (.int (nI f)), some (.int 4), some (.int pl)]) dX0_toneOf_33 rfl (by decide) rfl rfl ?_
    refine aw_iload_n (npc := 35) rfl dX0_toneOf_34 rfl ?_
    refine aw_tableIn (npc := 78) dX0_toneOf_35 (by decide) (by decide) rfl (by decide) ?_
    refine aw_iload_n (npc := 79) rfl dX0_toneOf_78 rfl ?_
    refine aw_iconst (npc := 80) (v := 2) (by decide) dX0_toneOf_79 rfl ?_
    refine aw_idiv (npc := 81) (by decide) dX0_toneOf_80 rfl ?_
    refine aw_bipush (npc := 83) (v := 10) (by decide) dX0_toneOf_81 rfl ?_
    refine aw_isub (npc := 84) dX0_toneOf_83 rfl ?_
    refine aw_iconst (npc := 85) (v := 0) (by decide) dX0_toneOf_84 rfl ?_
    refine aw_mmax (npc := 88) dX0_toneOf_85 rfl kmm_X0_103 kmx_max (Nat.le_of_ble_eq_true rfl) ?_
    refine aw_iret rfl dX0_toneOf_88 ?_
    exact hq _ _ ⟨pl, hpl, by simp [toneK, ek]⟩ F9 G9 fz
  · refine aw_top (y := 5) ek ?_
    refine aw_istore_n (npc := 7) (L' := [some (.ref b), some (.int (nI f)), some (.int 5), none]) dX0_toneOf_6 rfl (by decide) rfl rfl ?_
    refine aw_iload_n (npc := 8) rfl dX0_toneOf_7 rfl ?_
    refine aw_iconst (npc := 9) (v := 5) (by decide) dX0_toneOf_8 rfl ?_
    refine aw_icmp_eq (npc := 12) (tgt := 26) dX0_toneOf_9 rfl (by decide) (fun _ => ?_) (fun hc => absurd (by decide) hc)
    refine aw_iconst (npc := 27) (v := 0) (by decide) dX0_toneOf_26 rfl ?_
    refine aw_iret rfl dX0_toneOf_27 ?_
    obtain ⟨pl, hpl⟩ := pl_ex (lk := lk) (f := f) G hc7 hv
    exact hq _ _ ⟨pl, hpl, by simp [toneK, ek]⟩ F G am_fb0
def tyStp (s g jo : Nat) (N : Nat → Int32) (t : Nat) (p : Int32 × Int32) : Int32 × Int32 := if (if s = 0 then N (8 + 1 * t) ≤ 0 else 9 ≤ N (8 + 1 * t)) then p else if p.1 < 0 then (nI t, N (12 + 1 * (jo + t))) else if (if g = 1 then N (12 + 1 * (jo + t)) ≤ p.2 else p.2 ≤ N (12 + 1 * (jo + t))) then p else (nI t, N (12 + 1 * (jo + t)))
def tyM (s g jo : Nat) (N : Nat → Int32) : Nat → Nat → Int32 × Int32 → Int32 × Int32
  | 0, _, p => p
  | m + 1, t, p => tyM s g jo N m (t + 1) (tyStp s g jo N t p)
def tyK (k s : Int32) (N : Nat → Int32) : Int32 := if s = 0 then (if k = 1 then (tyM 0 0 4 N 4 0 (-1, 0)).1 else if k = 3 then (tyM 0 0 4 N 4 0 (-1, 0)).1 else if k = 4 then (tyM 0 1 4 N 4 0 (-1, 0)).1 else if k = 5 then (tyM 0 1 0 N 4 0 (-1, 0)).1 else (tyM 0 0 0 N 4 0 (-1, 0)).1) else (if k = 1 then (tyM 1 0 0 N 4 0 (-1, 0)).1 else if k = 3 then (tyM 1 0 0 N 4 0 (-1, 0)).1 else if k = 4 then (tyM 1 1 0 N 4 0 (-1, 0)).1 else if k = 5 then (tyM 1 1 4 N 4 0 (-1, 0)).1 else (tyM 1 0 4 N 4 0 (-1, 0)).1)
def ty (N : Nat → Int32) (f : Nat) : Int32 := tyK (N (22 + 5 * f)) (N (23 + 5 * f)) N
set_option maxHeartbeats 4000000 in
set_option maxRecDepth 100000 in
theorem g_tyL000 {X : List Int32} {d rc rs n : Nat} {Q : am_Q} {b : Nat} {N : Nat → Int32} {tx : List Value} {lk mv : Nat → Int32} {h : am_H} {f : Nat} {kd bo : Int32} (F : QR b N tx lk mv h) : ∀ (m t : Nat), t + m = 4 → ∀ (bs bc : Int32) (v10 v11 : Option Value), Q (some (.int (tyM 0 0 0 N m t (bs, bc)).1)) n h → AW X mX0_termYielded (d + 3) rc rs 76 [some (.ref b), some (.int (nI f)), some (.int kd), some (.int 0), some (.int bo), some (.int 0), some (.int 0), some (.int bs), some (.int bc), some (.int (nI t)), v10, v11] [] n h Q := by
  intro m
  induction m with
  | zero =>
    intro t ht bs bc v10 v11 hq
    obtain rfl : t = 4 := by omega
    refine aw_iload (npc := 78) rfl dX0_termYielded_76 rfl ?_
    refine aw_iconst (npc := 79) (v := 4) (by decide) dX0_termYielded_78 rfl ?_
    refine aw_icmp_ge (npc := 82) (tgt := 183) dX0_termYielded_79 rfl (by decide) (fun _ => ?_) (fun hc => absurd (nI_le (a := 4) (b := 4) (by omega) (by omega)) hc)
    refine aw_iload (npc := 185) rfl dX0_termYielded_183 rfl ?_
    refine aw_iret rfl dX0_termYielded_185 ?_
    exact hq
  | succ m ih =>
    intro t ht bs bc v10 v11 hq
    refine aw_iload (npc := 78) rfl dX0_termYielded_76 rfl ?_
    refine aw_iconst (npc := 79) (v := 4) (by decide) dX0_termYielded_78 rfl ?_
    refine aw_icmp_ge (npc := 82) (tgt := 183) dX0_termYielded_79 rfl (by decide) (fun hc => absurd hc (nI_ge (a := t) (b := 4) (by omega) (by omega))) (fun _ => ?_)
    refine aw_iload_n (npc := 83) rfl dX0_termYielded_82 rfl ?_
    refine aw_if_ne (npc := 86) (tgt := 104) dX0_termYielded_83 rfl (by decide) (fun hc => absurd (by decide) hc) (fun _ => ?_)
    refine aw_aload_n (npc := 87) rfl dX0_termYielded_86 rfl ?_
    refine aw_get (npc := 90) dX0_termYielded_87 rfl kf_X0_9 F.1 rfl ?_
    refine aw_iload (npc := 92) rfl dX0_termYielded_90 rfl ?_
    refine aw_iald (npc := 93) (x := N (8 + 1 * t)) (j := t) dX0_termYielded_92 rfl F.2.1 (am_ix_nI (by omega)) (tl_at (by omega)) ?_
    refine aw_if_le (npc := 96) (tgt := 100) dX0_termYielded_93 rfl (by decide) (fun hc2 => ?_) (fun hc2 => ?_)
    · refine aw_iconst (npc := 101) (v := 0) (by decide) dX0_termYielded_100 rfl ?_
      refine aw_goto (npc := 121) dX0_termYielded_101 (by decide) ?_
      refine aw_istore (npc := 123) (L' := [some (.ref b), some (.int (nI f)), some (.int kd), some (.int 0), some (.int bo), some (.int 0), some (.int 0), some (.int bs), some (.int bc), some (.int (nI t)), some (.int 0), v11]) dX0_termYielded_121 rfl (by decide) rfl rfl ?_
      refine aw_aload_n (npc := 124) rfl dX0_termYielded_123 rfl ?_
      refine aw_get (npc := 127) dX0_termYielded_124 rfl kf_X0_15 F.1 rfl ?_
      refine aw_iload (npc := 129) rfl dX0_termYielded_127 rfl ?_
      refine aw_iload (npc := 131) rfl dX0_termYielded_129 rfl ?_
      refine aw_callSN (npc := 134) (N := mX7_carePlace) (mc := 0) (ms := 0) (A := [.int 0, .int (nI t)]) (S := [.ref (b + 2)]) (L0 := [some (.int 0), some (.int (nI t))]) dX0_termYielded_131 rfl km_X7_carePlace kk_X0_87 rfl ⟨rfl, by decide⟩ rfl (Nat.le_of_ble_eq_true rfl) (Nat.zero_add _) (Nat.zero_add _) rfl ?_
      refine aw_iload_n (npc := 1) rfl dX7_carePlace_0 rfl ?_
      refine aw_iconst (npc := 2) (v := 4) (by decide) dX7_carePlace_1 rfl ?_
      refine aw_imulV (npc := 3) (v := 0) dX7_carePlace_2 rfl (by decide) ?_
      refine aw_iload_n (npc := 4) rfl dX7_carePlace_3 rfl ?_
      refine aw_iaddV (npc := 5) (v := nI (0 + t)) dX7_carePlace_4 rfl (nI_add 0 _) ?_
      refine aw_iret rfl dX7_carePlace_5 ?_
      refine aw_re (S' := [.int (nI (0 + t)), .ref (b + 2)]) rfl ?_
      refine aw_iald (npc := 135) (x := N (12 + 1 * (0 + t))) (j := (0 + t)) dX0_termYielded_134 rfl F.2.2.1 (am_ix_nI (by omega)) (tl_at (by omega)) ?_
      refine aw_istore (npc := 137) (L' := [some (.ref b), some (.int (nI f)), some (.int kd), some (.int 0), some (.int bo), some (.int 0), some (.int 0), some (.int bs), some (.int bc), some (.int (nI t)), some (.int 0), some (.int (N (12 + 1 * (0 + t))))]) dX0_termYielded_135 rfl (by decide) rfl rfl ?_
      refine aw_iload (npc := 139) rfl dX0_termYielded_137 rfl ?_
      refine aw_if_eq (npc := 142) (tgt := 177) dX0_termYielded_139 rfl (by decide) (fun _ => ?_) (fun hc => absurd (by decide) hc)
      refine aw_iinc (npc := 180) (v := nI (t + 1)) (L' := [some (.ref b), some (.int (nI f)), some (.int kd), some (.int 0), some (.int bo), some (.int 0), some (.int 0), some (.int bs), some (.int bc), some (.int (nI (t + 1))), some (.int 0), some (.int (N (12 + 1 * (0 + t))))]) dX0_termYielded_177 rfl rfl (nI_1 _) (by decide) rfl rfl ?_
      refine aw_goto (npc := 76) dX0_termYielded_180 (by decide) ?_
      refine ih (t + 1) (by omega) bs bc _ _ ?_
      have e9 : tyStp 0 0 0 N t (bs, bc) = (bs, bc) := by simp [tyStp, hc2, -Nat.one_mul, -Nat.zero_add]
      exact (congrArg (tyM 0 0 0 N m (t + 1)) e9) ▸ hq
    · refine aw_iconst (npc := 97) (v := 1) (by decide) dX0_termYielded_96 rfl ?_
      refine aw_goto (npc := 121) dX0_termYielded_97 (by decide) ?_
      refine aw_istore (npc := 123) (L' := [some (.ref b), some (.int (nI f)), some (.int kd), some (.int 0), some (.int bo), some (.int 0), some (.int 0), some (.int bs), some (.int bc), some (.int (nI t)), some (.int 1), v11]) dX0_termYielded_121 rfl (by decide) rfl rfl ?_
      refine aw_aload_n (npc := 124) rfl dX0_termYielded_123 rfl ?_
      refine aw_get (npc := 127) dX0_termYielded_124 rfl kf_X0_15 F.1 rfl ?_
      refine aw_iload (npc := 129) rfl dX0_termYielded_127 rfl ?_
      refine aw_iload (npc := 131) rfl dX0_termYielded_129 rfl ?_
      refine aw_callSN (npc := 134) (N := mX7_carePlace) (mc := 0) (ms := 0) (A := [.int 0, .int (nI t)]) (S := [.ref (b + 2)]) (L0 := [some (.int 0), some (.int (nI t))]) dX0_termYielded_131 rfl km_X7_carePlace kk_X0_87 rfl ⟨rfl, by decide⟩ rfl (Nat.le_of_ble_eq_true rfl) (Nat.zero_add _) (Nat.zero_add _) rfl ?_
      refine aw_iload_n (npc := 1) rfl dX7_carePlace_0 rfl ?_
      refine aw_iconst (npc := 2) (v := 4) (by decide) dX7_carePlace_1 rfl ?_
      refine aw_imulV (npc := 3) (v := 0) dX7_carePlace_2 rfl (by decide) ?_
      refine aw_iload_n (npc := 4) rfl dX7_carePlace_3 rfl ?_
      refine aw_iaddV (npc := 5) (v := nI (0 + t)) dX7_carePlace_4 rfl (nI_add 0 _) ?_
      refine aw_iret rfl dX7_carePlace_5 ?_
      refine aw_re (S' := [.int (nI (0 + t)), .ref (b + 2)]) rfl ?_
      refine aw_iald (npc := 135) (x := N (12 + 1 * (0 + t))) (j := (0 + t)) dX0_termYielded_134 rfl F.2.2.1 (am_ix_nI (by omega)) (tl_at (by omega)) ?_
      refine aw_istore (npc := 137) (L' := [some (.ref b), some (.int (nI f)), some (.int kd), some (.int 0), some (.int bo), some (.int 0), some (.int 0), some (.int bs), some (.int bc), some (.int (nI t)), some (.int 1), some (.int (N (12 + 1 * (0 + t))))]) dX0_termYielded_135 rfl (by decide) rfl rfl ?_
      refine aw_iload (npc := 139) rfl dX0_termYielded_137 rfl ?_
      refine aw_if_eq (npc := 142) (tgt := 177) dX0_termYielded_139 rfl (by decide) (fun hc => absurd hc (by decide)) (fun _ => ?_)
      refine aw_iload (npc := 144) rfl dX0_termYielded_142 rfl ?_
      refine aw_if_lt (npc := 147) (tgt := 169) dX0_termYielded_144 rfl (by decide) (fun hc3 => ?_) (fun hc3 => ?_)
      · refine aw_iload (npc := 171) rfl dX0_termYielded_169 rfl ?_
        refine aw_istore (npc := 173) (L' := [some (.ref b), some (.int (nI f)), some (.int kd), some (.int 0), some (.int bo), some (.int 0), some (.int 0), some (.int (nI t)), some (.int bc), some (.int (nI t)), some (.int 1), some (.int (N (12 + 1 * (0 + t))))]) dX0_termYielded_171 rfl (by decide) rfl rfl ?_
        refine aw_iload (npc := 175) rfl dX0_termYielded_173 rfl ?_
        refine aw_istore (npc := 177) (L' := [some (.ref b), some (.int (nI f)), some (.int kd), some (.int 0), some (.int bo), some (.int 0), some (.int 0), some (.int (nI t)), some (.int (N (12 + 1 * (0 + t)))), some (.int (nI t)), some (.int 1), some (.int (N (12 + 1 * (0 + t))))]) dX0_termYielded_175 rfl (by decide) rfl rfl ?_
        refine aw_iinc (npc := 180) (v := nI (t + 1)) (L' := [some (.ref b), some (.int (nI f)), some (.int kd), some (.int 0), some (.int bo), some (.int 0), some (.int 0), some (.int (nI t)), some (.int (N (12 + 1 * (0 + t)))), some (.int (nI (t + 1))), some (.int 1), some (.int (N (12 + 1 * (0 + t))))]) dX0_termYielded_177 rfl rfl (nI_1 _) (by decide) rfl rfl ?_
        refine aw_goto (npc := 76) dX0_termYielded_180 (by decide) ?_
        refine ih (t + 1) (by omega) (nI t) (N (12 + 1 * (0 + t))) _ _ ?_
        have e9 : tyStp 0 0 0 N t (bs, bc) = (nI t, N (12 + 1 * (0 + t))) := by simp [tyStp, hc2, hc3, -Nat.one_mul, -Nat.zero_add]
        exact (congrArg (tyM 0 0 0 N m (t + 1)) e9) ▸ hq
      · refine aw_iload (npc := 149) rfl dX0_termYielded_147 rfl ?_
        refine aw_if_eq (npc := 152) (tgt := 162) dX0_termYielded_149 rfl (by decide) (fun _ => ?_) (fun hc => absurd (by decide) hc)
        refine aw_iload (npc := 164) rfl dX0_termYielded_162 rfl ?_
        refine aw_iload (npc := 166) rfl dX0_termYielded_164 rfl ?_
        refine aw_icmp_ge (npc := 169) (tgt := 177) dX0_termYielded_166 rfl (by decide) (fun hc4 => ?_) (fun hc4 => ?_)
        · refine aw_iinc (npc := 180) (v := nI (t + 1)) (L' := [some (.ref b), some (.int (nI f)), some (.int kd), some (.int 0), some (.int bo), some (.int 0), some (.int 0), some (.int bs), some (.int bc), some (.int (nI (t + 1))), some (.int 1), some (.int (N (12 + 1 * (0 + t))))]) dX0_termYielded_177 rfl rfl (nI_1 _) (by decide) rfl rfl ?_
          refine aw_goto (npc := 76) dX0_termYielded_180 (by decide) ?_
          refine ih (t + 1) (by omega) bs bc _ _ ?_
          have e9 : tyStp 0 0 0 N t (bs, bc) = (bs, bc) := by simp [tyStp, hc2, hc3, hc4, -Nat.one_mul, -Nat.zero_add]
          exact (congrArg (tyM 0 0 0 N m (t + 1)) e9) ▸ hq
        · refine aw_iload (npc := 171) rfl dX0_termYielded_169 rfl ?_
          refine aw_istore (npc := 173) (L' := [some (.ref b), some (.int (nI f)), some (.int kd), some (.int 0), some (.int bo), some (.int 0), some (.int 0), some (.int (nI t)), some (.int bc), some (.int (nI t)), some (.int 1), some (.int (N (12 + 1 * (0 + t))))]) dX0_termYielded_171 rfl (by decide) rfl rfl ?_
          refine aw_iload (npc := 175) rfl dX0_termYielded_173 rfl ?_
          refine aw_istore (npc := 177) (L' := [some (.ref b), some (.int (nI f)), some (.int kd), some (.int 0), some (.int bo), some (.int 0), some (.int 0), some (.int (nI t)), some (.int (N (12 + 1 * (0 + t)))), some (.int (nI t)), some (.int 1), some (.int (N (12 + 1 * (0 + t))))]) dX0_termYielded_175 rfl (by decide) rfl rfl ?_
          refine aw_iinc (npc := 180) (v := nI (t + 1)) (L' := [some (.ref b), some (.int (nI f)), some (.int kd), some (.int 0), some (.int bo), some (.int 0), some (.int 0), some (.int (nI t)), some (.int (N (12 + 1 * (0 + t)))), some (.int (nI (t + 1))), some (.int 1), some (.int (N (12 + 1 * (0 + t))))]) dX0_termYielded_177 rfl rfl (nI_1 _) (by decide) rfl rfl ?_
          refine aw_goto (npc := 76) dX0_termYielded_180 (by decide) ?_
          refine ih (t + 1) (by omega) (nI t) (N (12 + 1 * (0 + t))) _ _ ?_
          have e9 : tyStp 0 0 0 N t (bs, bc) = (nI t, N (12 + 1 * (0 + t))) := by simp [tyStp, hc2, hc3, hc4, -Nat.one_mul, -Nat.zero_add]
          exact (congrArg (tyM 0 0 0 N m (t + 1)) e9) ▸ hq
set_option maxHeartbeats 4000000 in
set_option maxRecDepth 100000 in
theorem g_tyL001 {X : List Int32} {d rc rs n : Nat} {Q : am_Q} {b : Nat} {N : Nat → Int32} {tx : List Value} {lk mv : Nat → Int32} {h : am_H} {f : Nat} {kd bo : Int32} (F : QR b N tx lk mv h) : ∀ (m t : Nat), t + m = 4 → ∀ (bs bc : Int32) (v10 v11 : Option Value), Q (some (.int (tyM 0 0 4 N m t (bs, bc)).1)) n h → AW X mX0_termYielded (d + 3) rc rs 76 [some (.ref b), some (.int (nI f)), some (.int kd), some (.int 0), some (.int bo), some (.int 0), some (.int 1), some (.int bs), some (.int bc), some (.int (nI t)), v10, v11] [] n h Q := by
  intro m
  induction m with
  | zero =>
    intro t ht bs bc v10 v11 hq
    obtain rfl : t = 4 := by omega
    refine aw_iload (npc := 78) rfl dX0_termYielded_76 rfl ?_
    refine aw_iconst (npc := 79) (v := 4) (by decide) dX0_termYielded_78 rfl ?_
    refine aw_icmp_ge (npc := 82) (tgt := 183) dX0_termYielded_79 rfl (by decide) (fun _ => ?_) (fun hc => absurd (nI_le (a := 4) (b := 4) (by omega) (by omega)) hc)
    refine aw_iload (npc := 185) rfl dX0_termYielded_183 rfl ?_
    refine aw_iret rfl dX0_termYielded_185 ?_
    exact hq
  | succ m ih =>
    intro t ht bs bc v10 v11 hq
    refine aw_iload (npc := 78) rfl dX0_termYielded_76 rfl ?_
    refine aw_iconst (npc := 79) (v := 4) (by decide) dX0_termYielded_78 rfl ?_
    refine aw_icmp_ge (npc := 82) (tgt := 183) dX0_termYielded_79 rfl (by decide) (fun hc => absurd hc (nI_ge (a := t) (b := 4) (by omega) (by omega))) (fun _ => ?_)
    refine aw_iload_n (npc := 83) rfl dX0_termYielded_82 rfl ?_
    refine aw_if_ne (npc := 86) (tgt := 104) dX0_termYielded_83 rfl (by decide) (fun hc => absurd (by decide) hc) (fun _ => ?_)
    refine aw_aload_n (npc := 87) rfl dX0_termYielded_86 rfl ?_
    refine aw_get (npc := 90) dX0_termYielded_87 rfl kf_X0_9 F.1 rfl ?_
    refine aw_iload (npc := 92) rfl dX0_termYielded_90 rfl ?_
    refine aw_iald (npc := 93) (x := N (8 + 1 * t)) (j := t) dX0_termYielded_92 rfl F.2.1 (am_ix_nI (by omega)) (tl_at (by omega)) ?_
    refine aw_if_le (npc := 96) (tgt := 100) dX0_termYielded_93 rfl (by decide) (fun hc2 => ?_) (fun hc2 => ?_)
    · refine aw_iconst (npc := 101) (v := 0) (by decide) dX0_termYielded_100 rfl ?_
      refine aw_goto (npc := 121) dX0_termYielded_101 (by decide) ?_
      refine aw_istore (npc := 123) (L' := [some (.ref b), some (.int (nI f)), some (.int kd), some (.int 0), some (.int bo), some (.int 0), some (.int 1), some (.int bs), some (.int bc), some (.int (nI t)), some (.int 0), v11]) dX0_termYielded_121 rfl (by decide) rfl rfl ?_
      refine aw_aload_n (npc := 124) rfl dX0_termYielded_123 rfl ?_
      refine aw_get (npc := 127) dX0_termYielded_124 rfl kf_X0_15 F.1 rfl ?_
      refine aw_iload (npc := 129) rfl dX0_termYielded_127 rfl ?_
      refine aw_iload (npc := 131) rfl dX0_termYielded_129 rfl ?_
      refine aw_callSN (npc := 134) (N := mX7_carePlace) (mc := 0) (ms := 0) (A := [.int 1, .int (nI t)]) (S := [.ref (b + 2)]) (L0 := [some (.int 1), some (.int (nI t))]) dX0_termYielded_131 rfl km_X7_carePlace kk_X0_87 rfl ⟨rfl, by decide⟩ rfl (Nat.le_of_ble_eq_true rfl) (Nat.zero_add _) (Nat.zero_add _) rfl ?_
      refine aw_iload_n (npc := 1) rfl dX7_carePlace_0 rfl ?_
      refine aw_iconst (npc := 2) (v := 4) (by decide) dX7_carePlace_1 rfl ?_
      refine aw_imulV (npc := 3) (v := 4) dX7_carePlace_2 rfl (by decide) ?_
      refine aw_iload_n (npc := 4) rfl dX7_carePlace_3 rfl ?_
      refine aw_iaddV (npc := 5) (v := nI (4 + t)) dX7_carePlace_4 rfl (nI_add 4 _) ?_
      refine aw_iret rfl dX7_carePlace_5 ?_
      refine aw_re (S' := [.int (nI (4 + t)), .ref (b + 2)]) rfl ?_
      refine aw_iald (npc := 135) (x := N (12 + 1 * (4 + t))) (j := (4 + t)) dX0_termYielded_134 rfl F.2.2.1 (am_ix_nI (by omega)) (tl_at (by omega)) ?_
      refine aw_istore (npc := 137) (L' := [some (.ref b), some (.int (nI f)), some (.int kd), some (.int 0), some (.int bo), some (.int 0), some (.int 1), some (.int bs), some (.int bc), some (.int (nI t)), some (.int 0), some (.int (N (12 + 1 * (4 + t))))]) dX0_termYielded_135 rfl (by decide) rfl rfl ?_
      refine aw_iload (npc := 139) rfl dX0_termYielded_137 rfl ?_
      refine aw_if_eq (npc := 142) (tgt := 177) dX0_termYielded_139 rfl (by decide) (fun _ => ?_) (fun hc => absurd (by decide) hc)
      refine aw_iinc (npc := 180) (v := nI (t + 1)) (L' := [some (.ref b), some (.int (nI f)), some (.int kd), some (.int 0), some (.int bo), some (.int 0), some (.int 1), some (.int bs), some (.int bc), some (.int (nI (t + 1))), some (.int 0), some (.int (N (12 + 1 * (4 + t))))]) dX0_termYielded_177 rfl rfl (nI_1 _) (by decide) rfl rfl ?_
      refine aw_goto (npc := 76) dX0_termYielded_180 (by decide) ?_
      refine ih (t + 1) (by omega) bs bc _ _ ?_
      have e9 : tyStp 0 0 4 N t (bs, bc) = (bs, bc) := by simp [tyStp, hc2, -Nat.one_mul, -Nat.zero_add]
      exact (congrArg (tyM 0 0 4 N m (t + 1)) e9) ▸ hq
    · refine aw_iconst (npc := 97) (v := 1) (by decide) dX0_termYielded_96 rfl ?_
      refine aw_goto (npc := 121) dX0_termYielded_97 (by decide) ?_
      refine aw_istore (npc := 123) (L' := [some (.ref b), some (.int (nI f)), some (.int kd), some (.int 0), some (.int bo), some (.int 0), some (.int 1), some (.int bs), some (.int bc), some (.int (nI t)), some (.int 1), v11]) dX0_termYielded_121 rfl (by decide) rfl rfl ?_
      refine aw_aload_n (npc := 124) rfl dX0_termYielded_123 rfl ?_
      refine aw_get (npc := 127) dX0_termYielded_124 rfl kf_X0_15 F.1 rfl ?_
      refine aw_iload (npc := 129) rfl dX0_termYielded_127 rfl ?_
      refine aw_iload (npc := 131) rfl dX0_termYielded_129 rfl ?_
      refine aw_callSN (npc := 134) (N := mX7_carePlace) (mc := 0) (ms := 0) (A := [.int 1, .int (nI t)]) (S := [.ref (b + 2)]) (L0 := [some (.int 1), some (.int (nI t))]) dX0_termYielded_131 rfl km_X7_carePlace kk_X0_87 rfl ⟨rfl, by decide⟩ rfl (Nat.le_of_ble_eq_true rfl) (Nat.zero_add _) (Nat.zero_add _) rfl ?_
      refine aw_iload_n (npc := 1) rfl dX7_carePlace_0 rfl ?_
      refine aw_iconst (npc := 2) (v := 4) (by decide) dX7_carePlace_1 rfl ?_
      refine aw_imulV (npc := 3) (v := 4) dX7_carePlace_2 rfl (by decide) ?_
      refine aw_iload_n (npc := 4) rfl dX7_carePlace_3 rfl ?_
      refine aw_iaddV (npc := 5) (v := nI (4 + t)) dX7_carePlace_4 rfl (nI_add 4 _) ?_
      refine aw_iret rfl dX7_carePlace_5 ?_
      refine aw_re (S' := [.int (nI (4 + t)), .ref (b + 2)]) rfl ?_
      refine aw_iald (npc := 135) (x := N (12 + 1 * (4 + t))) (j := (4 + t)) dX0_termYielded_134 rfl F.2.2.1 (am_ix_nI (by omega)) (tl_at (by omega)) ?_
      refine aw_istore (npc := 137) (L' := [some (.ref b), some (.int (nI f)), some (.int kd), some (.int 0), some (.int bo), some (.int 0), some (.int 1), some (.int bs), some (.int bc), some (.int (nI t)), some (.int 1), some (.int (N (12 + 1 * (4 + t))))]) dX0_termYielded_135 rfl (by decide) rfl rfl ?_
      refine aw_iload (npc := 139) rfl dX0_termYielded_137 rfl ?_
      refine aw_if_eq (npc := 142) (tgt := 177) dX0_termYielded_139 rfl (by decide) (fun hc => absurd hc (by decide)) (fun _ => ?_)
      refine aw_iload (npc := 144) rfl dX0_termYielded_142 rfl ?_
      refine aw_if_lt (npc := 147) (tgt := 169) dX0_termYielded_144 rfl (by decide) (fun hc3 => ?_) (fun hc3 => ?_)
      · refine aw_iload (npc := 171) rfl dX0_termYielded_169 rfl ?_
        refine aw_istore (npc := 173) (L' := [some (.ref b), some (.int (nI f)), some (.int kd), some (.int 0), some (.int bo), some (.int 0), some (.int 1), some (.int (nI t)), some (.int bc), some (.int (nI t)), some (.int 1), some (.int (N (12 + 1 * (4 + t))))]) dX0_termYielded_171 rfl (by decide) rfl rfl ?_
        refine aw_iload (npc := 175) rfl dX0_termYielded_173 rfl ?_
        refine aw_istore (npc := 177) (L' := [some (.ref b), some (.int (nI f)), some (.int kd), some (.int 0), some (.int bo), some (.int 0), some (.int 1), some (.int (nI t)), some (.int (N (12 + 1 * (4 + t)))), some (.int (nI t)), some (.int 1), some (.int (N (12 + 1 * (4 + t))))]) dX0_termYielded_175 rfl (by decide) rfl rfl ?_
        refine aw_iinc (npc := 180) (v := nI (t + 1)) (L' := [some (.ref b), some (.int (nI f)), some (.int kd), some (.int 0), some (.int bo), some (.int 0), some (.int 1), some (.int (nI t)), some (.int (N (12 + 1 * (4 + t)))), some (.int (nI (t + 1))), some (.int 1), some (.int (N (12 + 1 * (4 + t))))]) dX0_termYielded_177 rfl rfl (nI_1 _) (by decide) rfl rfl ?_
        refine aw_goto (npc := 76) dX0_termYielded_180 (by decide) ?_
        refine ih (t + 1) (by omega) (nI t) (N (12 + 1 * (4 + t))) _ _ ?_
        have e9 : tyStp 0 0 4 N t (bs, bc) = (nI t, N (12 + 1 * (4 + t))) := by simp [tyStp, hc2, hc3, -Nat.one_mul, -Nat.zero_add]
        exact (congrArg (tyM 0 0 4 N m (t + 1)) e9) ▸ hq
      · refine aw_iload (npc := 149) rfl dX0_termYielded_147 rfl ?_
        refine aw_if_eq (npc := 152) (tgt := 162) dX0_termYielded_149 rfl (by decide) (fun _ => ?_) (fun hc => absurd (by decide) hc)
        refine aw_iload (npc := 164) rfl dX0_termYielded_162 rfl ?_
        refine aw_iload (npc := 166) rfl dX0_termYielded_164 rfl ?_
        refine aw_icmp_ge (npc := 169) (tgt := 177) dX0_termYielded_166 rfl (by decide) (fun hc4 => ?_) (fun hc4 => ?_)
        · refine aw_iinc (npc := 180) (v := nI (t + 1)) (L' := [some (.ref b), some (.int (nI f)), some (.int kd), some (.int 0), some (.int bo), some (.int 0), some (.int 1), some (.int bs), some (.int bc), some (.int (nI (t + 1))), some (.int 1), some (.int (N (12 + 1 * (4 + t))))]) dX0_termYielded_177 rfl rfl (nI_1 _) (by decide) rfl rfl ?_
          refine aw_goto (npc := 76) dX0_termYielded_180 (by decide) ?_
          refine ih (t + 1) (by omega) bs bc _ _ ?_
          have e9 : tyStp 0 0 4 N t (bs, bc) = (bs, bc) := by simp [tyStp, hc2, hc3, hc4, -Nat.one_mul, -Nat.zero_add]
          exact (congrArg (tyM 0 0 4 N m (t + 1)) e9) ▸ hq
        · refine aw_iload (npc := 171) rfl dX0_termYielded_169 rfl ?_
          refine aw_istore (npc := 173) (L' := [some (.ref b), some (.int (nI f)), some (.int kd), some (.int 0), some (.int bo), some (.int 0), some (.int 1), some (.int (nI t)), some (.int bc), some (.int (nI t)), some (.int 1), some (.int (N (12 + 1 * (4 + t))))]) dX0_termYielded_171 rfl (by decide) rfl rfl ?_
          refine aw_iload (npc := 175) rfl dX0_termYielded_173 rfl ?_
          refine aw_istore (npc := 177) (L' := [some (.ref b), some (.int (nI f)), some (.int kd), some (.int 0), some (.int bo), some (.int 0), some (.int 1), some (.int (nI t)), some (.int (N (12 + 1 * (4 + t)))), some (.int (nI t)), some (.int 1), some (.int (N (12 + 1 * (4 + t))))]) dX0_termYielded_175 rfl (by decide) rfl rfl ?_
          refine aw_iinc (npc := 180) (v := nI (t + 1)) (L' := [some (.ref b), some (.int (nI f)), some (.int kd), some (.int 0), some (.int bo), some (.int 0), some (.int 1), some (.int (nI t)), some (.int (N (12 + 1 * (4 + t)))), some (.int (nI (t + 1))), some (.int 1), some (.int (N (12 + 1 * (4 + t))))]) dX0_termYielded_177 rfl rfl (nI_1 _) (by decide) rfl rfl ?_
          refine aw_goto (npc := 76) dX0_termYielded_180 (by decide) ?_
          refine ih (t + 1) (by omega) (nI t) (N (12 + 1 * (4 + t))) _ _ ?_
          have e9 : tyStp 0 0 4 N t (bs, bc) = (nI t, N (12 + 1 * (4 + t))) := by simp [tyStp, hc2, hc3, hc4, -Nat.one_mul, -Nat.zero_add]
          exact (congrArg (tyM 0 0 4 N m (t + 1)) e9) ▸ hq
set_option maxHeartbeats 4000000 in
set_option maxRecDepth 100000 in
theorem g_tyL010 {X : List Int32} {d rc rs n : Nat} {Q : am_Q} {b : Nat} {N : Nat → Int32} {tx : List Value} {lk mv : Nat → Int32} {h : am_H} {f : Nat} {kd bo : Int32} (F : QR b N tx lk mv h) : ∀ (m t : Nat), t + m = 4 → ∀ (bs bc : Int32) (v10 v11 : Option Value), Q (some (.int (tyM 0 1 0 N m t (bs, bc)).1)) n h → AW X mX0_termYielded (d + 3) rc rs 76 [some (.ref b), some (.int (nI f)), some (.int kd), some (.int 0), some (.int bo), some (.int 1), some (.int 0), some (.int bs), some (.int bc), some (.int (nI t)), v10, v11] [] n h Q := by
  intro m
  induction m with
  | zero =>
    intro t ht bs bc v10 v11 hq
    obtain rfl : t = 4 := by omega
    refine aw_iload (npc := 78) rfl dX0_termYielded_76 rfl ?_
    refine aw_iconst (npc := 79) (v := 4) (by decide) dX0_termYielded_78 rfl ?_
    refine aw_icmp_ge (npc := 82) (tgt := 183) dX0_termYielded_79 rfl (by decide) (fun _ => ?_) (fun hc => absurd (nI_le (a := 4) (b := 4) (by omega) (by omega)) hc)
    refine aw_iload (npc := 185) rfl dX0_termYielded_183 rfl ?_
    refine aw_iret rfl dX0_termYielded_185 ?_
    exact hq
  | succ m ih =>
    intro t ht bs bc v10 v11 hq
    refine aw_iload (npc := 78) rfl dX0_termYielded_76 rfl ?_
    refine aw_iconst (npc := 79) (v := 4) (by decide) dX0_termYielded_78 rfl ?_
    refine aw_icmp_ge (npc := 82) (tgt := 183) dX0_termYielded_79 rfl (by decide) (fun hc => absurd hc (nI_ge (a := t) (b := 4) (by omega) (by omega))) (fun _ => ?_)
    refine aw_iload_n (npc := 83) rfl dX0_termYielded_82 rfl ?_
    refine aw_if_ne (npc := 86) (tgt := 104) dX0_termYielded_83 rfl (by decide) (fun hc => absurd (by decide) hc) (fun _ => ?_)
    refine aw_aload_n (npc := 87) rfl dX0_termYielded_86 rfl ?_
    refine aw_get (npc := 90) dX0_termYielded_87 rfl kf_X0_9 F.1 rfl ?_
    refine aw_iload (npc := 92) rfl dX0_termYielded_90 rfl ?_
    refine aw_iald (npc := 93) (x := N (8 + 1 * t)) (j := t) dX0_termYielded_92 rfl F.2.1 (am_ix_nI (by omega)) (tl_at (by omega)) ?_
    refine aw_if_le (npc := 96) (tgt := 100) dX0_termYielded_93 rfl (by decide) (fun hc2 => ?_) (fun hc2 => ?_)
    · refine aw_iconst (npc := 101) (v := 0) (by decide) dX0_termYielded_100 rfl ?_
      refine aw_goto (npc := 121) dX0_termYielded_101 (by decide) ?_
      refine aw_istore (npc := 123) (L' := [some (.ref b), some (.int (nI f)), some (.int kd), some (.int 0), some (.int bo), some (.int 1), some (.int 0), some (.int bs), some (.int bc), some (.int (nI t)), some (.int 0), v11]) dX0_termYielded_121 rfl (by decide) rfl rfl ?_
      refine aw_aload_n (npc := 124) rfl dX0_termYielded_123 rfl ?_
      refine aw_get (npc := 127) dX0_termYielded_124 rfl kf_X0_15 F.1 rfl ?_
      refine aw_iload (npc := 129) rfl dX0_termYielded_127 rfl ?_
      refine aw_iload (npc := 131) rfl dX0_termYielded_129 rfl ?_
      refine aw_callSN (npc := 134) (N := mX7_carePlace) (mc := 0) (ms := 0) (A := [.int 0, .int (nI t)]) (S := [.ref (b + 2)]) (L0 := [some (.int 0), some (.int (nI t))]) dX0_termYielded_131 rfl km_X7_carePlace kk_X0_87 rfl ⟨rfl, by decide⟩ rfl (Nat.le_of_ble_eq_true rfl) (Nat.zero_add _) (Nat.zero_add _) rfl ?_
      refine aw_iload_n (npc := 1) rfl dX7_carePlace_0 rfl ?_
      refine aw_iconst (npc := 2) (v := 4) (by decide) dX7_carePlace_1 rfl ?_
      refine aw_imulV (npc := 3) (v := 0) dX7_carePlace_2 rfl (by decide) ?_
      refine aw_iload_n (npc := 4) rfl dX7_carePlace_3 rfl ?_
      refine aw_iaddV (npc := 5) (v := nI (0 + t)) dX7_carePlace_4 rfl (nI_add 0 _) ?_
      refine aw_iret rfl dX7_carePlace_5 ?_
      refine aw_re (S' := [.int (nI (0 + t)), .ref (b + 2)]) rfl ?_
      refine aw_iald (npc := 135) (x := N (12 + 1 * (0 + t))) (j := (0 + t)) dX0_termYielded_134 rfl F.2.2.1 (am_ix_nI (by omega)) (tl_at (by omega)) ?_
      refine aw_istore (npc := 137) (L' := [some (.ref b), some (.int (nI f)), some (.int kd), some (.int 0), some (.int bo), some (.int 1), some (.int 0), some (.int bs), some (.int bc), some (.int (nI t)), some (.int 0), some (.int (N (12 + 1 * (0 + t))))]) dX0_termYielded_135 rfl (by decide) rfl rfl ?_
      refine aw_iload (npc := 139) rfl dX0_termYielded_137 rfl ?_
      refine aw_if_eq (npc := 142) (tgt := 177) dX0_termYielded_139 rfl (by decide) (fun _ => ?_) (fun hc => absurd (by decide) hc)
      refine aw_iinc (npc := 180) (v := nI (t + 1)) (L' := [some (.ref b), some (.int (nI f)), some (.int kd), some (.int 0), some (.int bo), some (.int 1), some (.int 0), some (.int bs), some (.int bc), some (.int (nI (t + 1))), some (.int 0), some (.int (N (12 + 1 * (0 + t))))]) dX0_termYielded_177 rfl rfl (nI_1 _) (by decide) rfl rfl ?_
      refine aw_goto (npc := 76) dX0_termYielded_180 (by decide) ?_
      refine ih (t + 1) (by omega) bs bc _ _ ?_
      have e9 : tyStp 0 1 0 N t (bs, bc) = (bs, bc) := by simp [tyStp, hc2, -Nat.one_mul, -Nat.zero_add]
      exact (congrArg (tyM 0 1 0 N m (t + 1)) e9) ▸ hq
    · refine aw_iconst (npc := 97) (v := 1) (by decide) dX0_termYielded_96 rfl ?_
      refine aw_goto (npc := 121) dX0_termYielded_97 (by decide) ?_
      refine aw_istore (npc := 123) (L' := [some (.ref b), some (.int (nI f)), some (.int kd), some (.int 0), some (.int bo), some (.int 1), some (.int 0), some (.int bs), some (.int bc), some (.int (nI t)), some (.int 1), v11]) dX0_termYielded_121 rfl (by decide) rfl rfl ?_
      refine aw_aload_n (npc := 124) rfl dX0_termYielded_123 rfl ?_
      refine aw_get (npc := 127) dX0_termYielded_124 rfl kf_X0_15 F.1 rfl ?_
      refine aw_iload (npc := 129) rfl dX0_termYielded_127 rfl ?_
      refine aw_iload (npc := 131) rfl dX0_termYielded_129 rfl ?_
      refine aw_callSN (npc := 134) (N := mX7_carePlace) (mc := 0) (ms := 0) (A := [.int 0, .int (nI t)]) (S := [.ref (b + 2)]) (L0 := [some (.int 0), some (.int (nI t))]) dX0_termYielded_131 rfl km_X7_carePlace kk_X0_87 rfl ⟨rfl, by decide⟩ rfl (Nat.le_of_ble_eq_true rfl) (Nat.zero_add _) (Nat.zero_add _) rfl ?_
      refine aw_iload_n (npc := 1) rfl dX7_carePlace_0 rfl ?_
      refine aw_iconst (npc := 2) (v := 4) (by decide) dX7_carePlace_1 rfl ?_
      refine aw_imulV (npc := 3) (v := 0) dX7_carePlace_2 rfl (by decide) ?_
      refine aw_iload_n (npc := 4) rfl dX7_carePlace_3 rfl ?_
      refine aw_iaddV (npc := 5) (v := nI (0 + t)) dX7_carePlace_4 rfl (nI_add 0 _) ?_
      refine aw_iret rfl dX7_carePlace_5 ?_
      refine aw_re (S' := [.int (nI (0 + t)), .ref (b + 2)]) rfl ?_
      refine aw_iald (npc := 135) (x := N (12 + 1 * (0 + t))) (j := (0 + t)) dX0_termYielded_134 rfl F.2.2.1 (am_ix_nI (by omega)) (tl_at (by omega)) ?_
      refine aw_istore (npc := 137) (L' := [some (.ref b), some (.int (nI f)), some (.int kd), some (.int 0), some (.int bo), some (.int 1), some (.int 0), some (.int bs), some (.int bc), some (.int (nI t)), some (.int 1), some (.int (N (12 + 1 * (0 + t))))]) dX0_termYielded_135 rfl (by decide) rfl rfl ?_
      refine aw_iload (npc := 139) rfl dX0_termYielded_137 rfl ?_
      refine aw_if_eq (npc := 142) (tgt := 177) dX0_termYielded_139 rfl (by decide) (fun hc => absurd hc (by decide)) (fun _ => ?_)
      refine aw_iload (npc := 144) rfl dX0_termYielded_142 rfl ?_
      refine aw_if_lt (npc := 147) (tgt := 169) dX0_termYielded_144 rfl (by decide) (fun hc3 => ?_) (fun hc3 => ?_)
      · refine aw_iload (npc := 171) rfl dX0_termYielded_169 rfl ?_
        refine aw_istore (npc := 173) (L' := [some (.ref b), some (.int (nI f)), some (.int kd), some (.int 0), some (.int bo), some (.int 1), some (.int 0), some (.int (nI t)), some (.int bc), some (.int (nI t)), some (.int 1), some (.int (N (12 + 1 * (0 + t))))]) dX0_termYielded_171 rfl (by decide) rfl rfl ?_
        refine aw_iload (npc := 175) rfl dX0_termYielded_173 rfl ?_
        refine aw_istore (npc := 177) (L' := [some (.ref b), some (.int (nI f)), some (.int kd), some (.int 0), some (.int bo), some (.int 1), some (.int 0), some (.int (nI t)), some (.int (N (12 + 1 * (0 + t)))), some (.int (nI t)), some (.int 1), some (.int (N (12 + 1 * (0 + t))))]) dX0_termYielded_175 rfl (by decide) rfl rfl ?_
        refine aw_iinc (npc := 180) (v := nI (t + 1)) (L' := [some (.ref b), some (.int (nI f)), some (.int kd), some (.int 0), some (.int bo), some (.int 1), some (.int 0), some (.int (nI t)), some (.int (N (12 + 1 * (0 + t)))), some (.int (nI (t + 1))), some (.int 1), some (.int (N (12 + 1 * (0 + t))))]) dX0_termYielded_177 rfl rfl (nI_1 _) (by decide) rfl rfl ?_
        refine aw_goto (npc := 76) dX0_termYielded_180 (by decide) ?_
        refine ih (t + 1) (by omega) (nI t) (N (12 + 1 * (0 + t))) _ _ ?_
        have e9 : tyStp 0 1 0 N t (bs, bc) = (nI t, N (12 + 1 * (0 + t))) := by simp [tyStp, hc2, hc3, -Nat.one_mul, -Nat.zero_add]
        exact (congrArg (tyM 0 1 0 N m (t + 1)) e9) ▸ hq
      · refine aw_iload (npc := 149) rfl dX0_termYielded_147 rfl ?_
        refine aw_if_eq (npc := 152) (tgt := 162) dX0_termYielded_149 rfl (by decide) (fun hc => absurd hc (by decide)) (fun _ => ?_)
        refine aw_iload (npc := 154) rfl dX0_termYielded_152 rfl ?_
        refine aw_iload (npc := 156) rfl dX0_termYielded_154 rfl ?_
        refine aw_icmp_le (npc := 159) (tgt := 177) dX0_termYielded_156 rfl (by decide) (fun hc4 => ?_) (fun hc4 => ?_)
        · refine aw_iinc (npc := 180) (v := nI (t + 1)) (L' := [some (.ref b), some (.int (nI f)), some (.int kd), some (.int 0), some (.int bo), some (.int 1), some (.int 0), some (.int bs), some (.int bc), some (.int (nI (t + 1))), some (.int 1), some (.int (N (12 + 1 * (0 + t))))]) dX0_termYielded_177 rfl rfl (nI_1 _) (by decide) rfl rfl ?_
          refine aw_goto (npc := 76) dX0_termYielded_180 (by decide) ?_
          refine ih (t + 1) (by omega) bs bc _ _ ?_
          have e9 : tyStp 0 1 0 N t (bs, bc) = (bs, bc) := by simp [tyStp, hc2, hc3, hc4, -Nat.one_mul, -Nat.zero_add]
          exact (congrArg (tyM 0 1 0 N m (t + 1)) e9) ▸ hq
        · refine aw_goto (npc := 169) dX0_termYielded_159 (by decide) ?_
          refine aw_iload (npc := 171) rfl dX0_termYielded_169 rfl ?_
          refine aw_istore (npc := 173) (L' := [some (.ref b), some (.int (nI f)), some (.int kd), some (.int 0), some (.int bo), some (.int 1), some (.int 0), some (.int (nI t)), some (.int bc), some (.int (nI t)), some (.int 1), some (.int (N (12 + 1 * (0 + t))))]) dX0_termYielded_171 rfl (by decide) rfl rfl ?_
          refine aw_iload (npc := 175) rfl dX0_termYielded_173 rfl ?_
          refine aw_istore (npc := 177) (L' := [some (.ref b), some (.int (nI f)), some (.int kd), some (.int 0), some (.int bo), some (.int 1), some (.int 0), some (.int (nI t)), some (.int (N (12 + 1 * (0 + t)))), some (.int (nI t)), some (.int 1), some (.int (N (12 + 1 * (0 + t))))]) dX0_termYielded_175 rfl (by decide) rfl rfl ?_
          refine aw_iinc (npc := 180) (v := nI (t + 1)) (L' := [some (.ref b), some (.int (nI f)), some (.int kd), some (.int 0), some (.int bo), some (.int 1), some (.int 0), some (.int (nI t)), some (.int (N (12 + 1 * (0 + t)))), some (.int (nI (t + 1))), some (.int 1), some (.int (N (12 + 1 * (0 + t))))]) dX0_termYielded_177 rfl rfl (nI_1 _) (by decide) rfl rfl ?_
          refine aw_goto (npc := 76) dX0_termYielded_180 (by decide) ?_
          refine ih (t + 1) (by omega) (nI t) (N (12 + 1 * (0 + t))) _ _ ?_
          have e9 : tyStp 0 1 0 N t (bs, bc) = (nI t, N (12 + 1 * (0 + t))) := by simp [tyStp, hc2, hc3, hc4, -Nat.one_mul, -Nat.zero_add]
          exact (congrArg (tyM 0 1 0 N m (t + 1)) e9) ▸ hq
set_option maxHeartbeats 4000000 in
set_option maxRecDepth 100000 in
theorem g_tyL011 {X : List Int32} {d rc rs n : Nat} {Q : am_Q} {b : Nat} {N : Nat → Int32} {tx : List Value} {lk mv : Nat → Int32} {h : am_H} {f : Nat} {kd bo : Int32} (F : QR b N tx lk mv h) : ∀ (m t : Nat), t + m = 4 → ∀ (bs bc : Int32) (v10 v11 : Option Value), Q (some (.int (tyM 0 1 4 N m t (bs, bc)).1)) n h → AW X mX0_termYielded (d + 3) rc rs 76 [some (.ref b), some (.int (nI f)), some (.int kd), some (.int 0), some (.int bo), some (.int 1), some (.int 1), some (.int bs), some (.int bc), some (.int (nI t)), v10, v11] [] n h Q := by
  intro m
  induction m with
  | zero =>
    intro t ht bs bc v10 v11 hq
    obtain rfl : t = 4 := by omega
    refine aw_iload (npc := 78) rfl dX0_termYielded_76 rfl ?_
    refine aw_iconst (npc := 79) (v := 4) (by decide) dX0_termYielded_78 rfl ?_
    refine aw_icmp_ge (npc := 82) (tgt := 183) dX0_termYielded_79 rfl (by decide) (fun _ => ?_) (fun hc => absurd (nI_le (a := 4) (b := 4) (by omega) (by omega)) hc)
    refine aw_iload (npc := 185) rfl dX0_termYielded_183 rfl ?_
    refine aw_iret rfl dX0_termYielded_185 ?_
    exact hq
  | succ m ih =>
    intro t ht bs bc v10 v11 hq
    refine aw_iload (npc := 78) rfl dX0_termYielded_76 rfl ?_
    refine aw_iconst (npc := 79) (v := 4) (by decide) dX0_termYielded_78 rfl ?_
    refine aw_icmp_ge (npc := 82) (tgt := 183) dX0_termYielded_79 rfl (by decide) (fun hc => absurd hc (nI_ge (a := t) (b := 4) (by omega) (by omega))) (fun _ => ?_)
    refine aw_iload_n (npc := 83) rfl dX0_termYielded_82 rfl ?_
    refine aw_if_ne (npc := 86) (tgt := 104) dX0_termYielded_83 rfl (by decide) (fun hc => absurd (by decide) hc) (fun _ => ?_)
    refine aw_aload_n (npc := 87) rfl dX0_termYielded_86 rfl ?_
    refine aw_get (npc := 90) dX0_termYielded_87 rfl kf_X0_9 F.1 rfl ?_
    refine aw_iload (npc := 92) rfl dX0_termYielded_90 rfl ?_
    refine aw_iald (npc := 93) (x := N (8 + 1 * t)) (j := t) dX0_termYielded_92 rfl F.2.1 (am_ix_nI (by omega)) (tl_at (by omega)) ?_
    refine aw_if_le (npc := 96) (tgt := 100) dX0_termYielded_93 rfl (by decide) (fun hc2 => ?_) (fun hc2 => ?_)
    · refine aw_iconst (npc := 101) (v := 0) (by decide) dX0_termYielded_100 rfl ?_
      refine aw_goto (npc := 121) dX0_termYielded_101 (by decide) ?_
      refine aw_istore (npc := 123) (L' := [some (.ref b), some (.int (nI f)), some (.int kd), some (.int 0), some (.int bo), some (.int 1), some (.int 1), some (.int bs), some (.int bc), some (.int (nI t)), some (.int 0), v11]) dX0_termYielded_121 rfl (by decide) rfl rfl ?_
      refine aw_aload_n (npc := 124) rfl dX0_termYielded_123 rfl ?_
      refine aw_get (npc := 127) dX0_termYielded_124 rfl kf_X0_15 F.1 rfl ?_
      refine aw_iload (npc := 129) rfl dX0_termYielded_127 rfl ?_
      refine aw_iload (npc := 131) rfl dX0_termYielded_129 rfl ?_
      refine aw_callSN (npc := 134) (N := mX7_carePlace) (mc := 0) (ms := 0) (A := [.int 1, .int (nI t)]) (S := [.ref (b + 2)]) (L0 := [some (.int 1), some (.int (nI t))]) dX0_termYielded_131 rfl km_X7_carePlace kk_X0_87 rfl ⟨rfl, by decide⟩ rfl (Nat.le_of_ble_eq_true rfl) (Nat.zero_add _) (Nat.zero_add _) rfl ?_
      refine aw_iload_n (npc := 1) rfl dX7_carePlace_0 rfl ?_
      refine aw_iconst (npc := 2) (v := 4) (by decide) dX7_carePlace_1 rfl ?_
      refine aw_imulV (npc := 3) (v := 4) dX7_carePlace_2 rfl (by decide) ?_
      refine aw_iload_n (npc := 4) rfl dX7_carePlace_3 rfl ?_
      refine aw_iaddV (npc := 5) (v := nI (4 + t)) dX7_carePlace_4 rfl (nI_add 4 _) ?_
      refine aw_iret rfl dX7_carePlace_5 ?_
      refine aw_re (S' := [.int (nI (4 + t)), .ref (b + 2)]) rfl ?_
      refine aw_iald (npc := 135) (x := N (12 + 1 * (4 + t))) (j := (4 + t)) dX0_termYielded_134 rfl F.2.2.1 (am_ix_nI (by omega)) (tl_at (by omega)) ?_
      refine aw_istore (npc := 137) (L' := [some (.ref b), some (.int (nI f)), some (.int kd), some (.int 0), some (.int bo), some (.int 1), some (.int 1), some (.int bs), some (.int bc), some (.int (nI t)), some (.int 0), some (.int (N (12 + 1 * (4 + t))))]) dX0_termYielded_135 rfl (by decide) rfl rfl ?_
      refine aw_iload (npc := 139) rfl dX0_termYielded_137 rfl ?_
      refine aw_if_eq (npc := 142) (tgt := 177) dX0_termYielded_139 rfl (by decide) (fun _ => ?_) (fun hc => absurd (by decide) hc)
      refine aw_iinc (npc := 180) (v := nI (t + 1)) (L' := [some (.ref b), some (.int (nI f)), some (.int kd), some (.int 0), some (.int bo), some (.int 1), some (.int 1), some (.int bs), some (.int bc), some (.int (nI (t + 1))), some (.int 0), some (.int (N (12 + 1 * (4 + t))))]) dX0_termYielded_177 rfl rfl (nI_1 _) (by decide) rfl rfl ?_
      refine aw_goto (npc := 76) dX0_termYielded_180 (by decide) ?_
      refine ih (t + 1) (by omega) bs bc _ _ ?_
      have e9 : tyStp 0 1 4 N t (bs, bc) = (bs, bc) := by simp [tyStp, hc2, -Nat.one_mul, -Nat.zero_add]
      exact (congrArg (tyM 0 1 4 N m (t + 1)) e9) ▸ hq
    · refine aw_iconst (npc := 97) (v := 1) (by decide) dX0_termYielded_96 rfl ?_
      refine aw_goto (npc := 121) dX0_termYielded_97 (by decide) ?_
      refine aw_istore (npc := 123) (L' := [some (.ref b), some (.int (nI f)), some (.int kd), some (.int 0), some (.int bo), some (.int 1), some (.int 1), some (.int bs), some (.int bc), some (.int (nI t)), some (.int 1), v11]) dX0_termYielded_121 rfl (by decide) rfl rfl ?_
      refine aw_aload_n (npc := 124) rfl dX0_termYielded_123 rfl ?_
      refine aw_get (npc := 127) dX0_termYielded_124 rfl kf_X0_15 F.1 rfl ?_
      refine aw_iload (npc := 129) rfl dX0_termYielded_127 rfl ?_
      refine aw_iload (npc := 131) rfl dX0_termYielded_129 rfl ?_
      refine aw_callSN (npc := 134) (N := mX7_carePlace) (mc := 0) (ms := 0) (A := [.int 1, .int (nI t)]) (S := [.ref (b + 2)]) (L0 := [some (.int 1), some (.int (nI t))]) dX0_termYielded_131 rfl km_X7_carePlace kk_X0_87 rfl ⟨rfl, by decide⟩ rfl (Nat.le_of_ble_eq_true rfl) (Nat.zero_add _) (Nat.zero_add _) rfl ?_
      refine aw_iload_n (npc := 1) rfl dX7_carePlace_0 rfl ?_
      refine aw_iconst (npc := 2) (v := 4) (by decide) dX7_carePlace_1 rfl ?_
      refine aw_imulV (npc := 3) (v := 4) dX7_carePlace_2 rfl (by decide) ?_
      refine aw_iload_n (npc := 4) rfl dX7_carePlace_3 rfl ?_
      refine aw_iaddV (npc := 5) (v := nI (4 + t)) dX7_carePlace_4 rfl (nI_add 4 _) ?_
      refine aw_iret rfl dX7_carePlace_5 ?_
      refine aw_re (S' := [.int (nI (4 + t)), .ref (b + 2)]) rfl ?_
      refine aw_iald (npc := 135) (x := N (12 + 1 * (4 + t))) (j := (4 + t)) dX0_termYielded_134 rfl F.2.2.1 (am_ix_nI (by omega)) (tl_at (by omega)) ?_
      refine aw_istore (npc := 137) (L' := [some (.ref b), some (.int (nI f)), some (.int kd), some (.int 0), some (.int bo), some (.int 1), some (.int 1), some (.int bs), some (.int bc), some (.int (nI t)), some (.int 1), some (.int (N (12 + 1 * (4 + t))))]) dX0_termYielded_135 rfl (by decide) rfl rfl ?_
      refine aw_iload (npc := 139) rfl dX0_termYielded_137 rfl ?_
      refine aw_if_eq (npc := 142) (tgt := 177) dX0_termYielded_139 rfl (by decide) (fun hc => absurd hc (by decide)) (fun _ => ?_)
      refine aw_iload (npc := 144) rfl dX0_termYielded_142 rfl ?_
      refine aw_if_lt (npc := 147) (tgt := 169) dX0_termYielded_144 rfl (by decide) (fun hc3 => ?_) (fun hc3 => ?_)
      · refine aw_iload (npc := 171) rfl dX0_termYielded_169 rfl ?_
        refine aw_istore (npc := 173) (L' := [some (.ref b), some (.int (nI f)), some (.int kd), some (.int 0), some (.int bo), some (.int 1), some (.int 1), some (.int (nI t)), some (.int bc), some (.int (nI t)), some (.int 1), some (.int (N (12 + 1 * (4 + t))))]) dX0_termYielded_171 rfl (by decide) rfl rfl ?_
        refine aw_iload (npc := 175) rfl dX0_termYielded_173 rfl ?_
        refine aw_istore (npc := 177) (L' := [some (.ref b), some (.int (nI f)), some (.int kd), some (.int 0), some (.int bo), some (.int 1), some (.int 1), some (.int (nI t)), some (.int (N (12 + 1 * (4 + t)))), some (.int (nI t)), some (.int 1), some (.int (N (12 + 1 * (4 + t))))]) dX0_termYielded_175 rfl (by decide) rfl rfl ?_
        refine aw_iinc (npc := 180) (v := nI (t + 1)) (L' := [some (.ref b), some (.int (nI f)), some (.int kd), some (.int 0), some (.int bo), some (.int 1), some (.int 1), some (.int (nI t)), some (.int (N (12 + 1 * (4 + t)))), some (.int (nI (t + 1))), some (.int 1), some (.int (N (12 + 1 * (4 + t))))]) dX0_termYielded_177 rfl rfl (nI_1 _) (by decide) rfl rfl ?_
        refine aw_goto (npc := 76) dX0_termYielded_180 (by decide) ?_
        refine ih (t + 1) (by omega) (nI t) (N (12 + 1 * (4 + t))) _ _ ?_
        have e9 : tyStp 0 1 4 N t (bs, bc) = (nI t, N (12 + 1 * (4 + t))) := by simp [tyStp, hc2, hc3, -Nat.one_mul, -Nat.zero_add]
        exact (congrArg (tyM 0 1 4 N m (t + 1)) e9) ▸ hq
      · refine aw_iload (npc := 149) rfl dX0_termYielded_147 rfl ?_
        refine aw_if_eq (npc := 152) (tgt := 162) dX0_termYielded_149 rfl (by decide) (fun hc => absurd hc (by decide)) (fun _ => ?_)
        refine aw_iload (npc := 154) rfl dX0_termYielded_152 rfl ?_
        refine aw_iload (npc := 156) rfl dX0_termYielded_154 rfl ?_
        refine aw_icmp_le (npc := 159) (tgt := 177) dX0_termYielded_156 rfl (by decide) (fun hc4 => ?_) (fun hc4 => ?_)
        · refine aw_iinc (npc := 180) (v := nI (t + 1)) (L' := [some (.ref b), some (.int (nI f)), some (.int kd), some (.int 0), some (.int bo), some (.int 1), some (.int 1), some (.int bs), some (.int bc), some (.int (nI (t + 1))), some (.int 1), some (.int (N (12 + 1 * (4 + t))))]) dX0_termYielded_177 rfl rfl (nI_1 _) (by decide) rfl rfl ?_
          refine aw_goto (npc := 76) dX0_termYielded_180 (by decide) ?_
          refine ih (t + 1) (by omega) bs bc _ _ ?_
          have e9 : tyStp 0 1 4 N t (bs, bc) = (bs, bc) := by simp [tyStp, hc2, hc3, hc4, -Nat.one_mul, -Nat.zero_add]
          exact (congrArg (tyM 0 1 4 N m (t + 1)) e9) ▸ hq
        · refine aw_goto (npc := 169) dX0_termYielded_159 (by decide) ?_
          refine aw_iload (npc := 171) rfl dX0_termYielded_169 rfl ?_
          refine aw_istore (npc := 173) (L' := [some (.ref b), some (.int (nI f)), some (.int kd), some (.int 0), some (.int bo), some (.int 1), some (.int 1), some (.int (nI t)), some (.int bc), some (.int (nI t)), some (.int 1), some (.int (N (12 + 1 * (4 + t))))]) dX0_termYielded_171 rfl (by decide) rfl rfl ?_
          refine aw_iload (npc := 175) rfl dX0_termYielded_173 rfl ?_
          refine aw_istore (npc := 177) (L' := [some (.ref b), some (.int (nI f)), some (.int kd), some (.int 0), some (.int bo), some (.int 1), some (.int 1), some (.int (nI t)), some (.int (N (12 + 1 * (4 + t)))), some (.int (nI t)), some (.int 1), some (.int (N (12 + 1 * (4 + t))))]) dX0_termYielded_175 rfl (by decide) rfl rfl ?_
          refine aw_iinc (npc := 180) (v := nI (t + 1)) (L' := [some (.ref b), some (.int (nI f)), some (.int kd), some (.int 0), some (.int bo), some (.int 1), some (.int 1), some (.int (nI t)), some (.int (N (12 + 1 * (4 + t)))), some (.int (nI (t + 1))), some (.int 1), some (.int (N (12 + 1 * (4 + t))))]) dX0_termYielded_177 rfl rfl (nI_1 _) (by decide) rfl rfl ?_
          refine aw_goto (npc := 76) dX0_termYielded_180 (by decide) ?_
          refine ih (t + 1) (by omega) (nI t) (N (12 + 1 * (4 + t))) _ _ ?_
          have e9 : tyStp 0 1 4 N t (bs, bc) = (nI t, N (12 + 1 * (4 + t))) := by simp [tyStp, hc2, hc3, hc4, -Nat.one_mul, -Nat.zero_add]
          exact (congrArg (tyM 0 1 4 N m (t + 1)) e9) ▸ hq
set_option maxHeartbeats 4000000 in
set_option maxRecDepth 100000 in
theorem g_tyL100 {X : List Int32} {d rc rs n : Nat} {Q : am_Q} {b : Nat} {N : Nat → Int32} {tx : List Value} {lk mv : Nat → Int32} {h : am_H} {f : Nat} {kd bo : Int32} (F : QR b N tx lk mv h) : ∀ (m t : Nat), t + m = 4 → ∀ (bs bc : Int32) (v10 v11 : Option Value), Q (some (.int (tyM 1 0 0 N m t (bs, bc)).1)) n h → AW X mX0_termYielded (d + 3) rc rs 76 [some (.ref b), some (.int (nI f)), some (.int kd), some (.int 1), some (.int bo), some (.int 0), some (.int 0), some (.int bs), some (.int bc), some (.int (nI t)), v10, v11] [] n h Q := by
  intro m
  induction m with
  | zero =>
    intro t ht bs bc v10 v11 hq
    obtain rfl : t = 4 := by omega
    refine aw_iload (npc := 78) rfl dX0_termYielded_76 rfl ?_
    refine aw_iconst (npc := 79) (v := 4) (by decide) dX0_termYielded_78 rfl ?_
    refine aw_icmp_ge (npc := 82) (tgt := 183) dX0_termYielded_79 rfl (by decide) (fun _ => ?_) (fun hc => absurd (nI_le (a := 4) (b := 4) (by omega) (by omega)) hc)
    refine aw_iload (npc := 185) rfl dX0_termYielded_183 rfl ?_
    refine aw_iret rfl dX0_termYielded_185 ?_
    exact hq
  | succ m ih =>
    intro t ht bs bc v10 v11 hq
    refine aw_iload (npc := 78) rfl dX0_termYielded_76 rfl ?_
    refine aw_iconst (npc := 79) (v := 4) (by decide) dX0_termYielded_78 rfl ?_
    refine aw_icmp_ge (npc := 82) (tgt := 183) dX0_termYielded_79 rfl (by decide) (fun hc => absurd hc (nI_ge (a := t) (b := 4) (by omega) (by omega))) (fun _ => ?_)
    refine aw_iload_n (npc := 83) rfl dX0_termYielded_82 rfl ?_
    refine aw_if_ne (npc := 86) (tgt := 104) dX0_termYielded_83 rfl (by decide) (fun _ => ?_) (fun hc => absurd hc (by decide))
    refine aw_aload_n (npc := 105) rfl dX0_termYielded_104 rfl ?_
    refine aw_get (npc := 108) dX0_termYielded_105 rfl kf_X0_9 F.1 rfl ?_
    refine aw_iload (npc := 110) rfl dX0_termYielded_108 rfl ?_
    refine aw_iald (npc := 111) (x := N (8 + 1 * t)) (j := t) dX0_termYielded_110 rfl F.2.1 (am_ix_nI (by omega)) (tl_at (by omega)) ?_
    refine aw_bipush (npc := 113) (v := 9) (by decide) dX0_termYielded_111 rfl ?_
    refine aw_icmp_ge (npc := 116) (tgt := 120) dX0_termYielded_113 rfl (by decide) (fun hc2 => ?_) (fun hc2 => ?_)
    · refine aw_iconst (npc := 121) (v := 0) (by decide) dX0_termYielded_120 rfl ?_
      refine aw_istore (npc := 123) (L' := [some (.ref b), some (.int (nI f)), some (.int kd), some (.int 1), some (.int bo), some (.int 0), some (.int 0), some (.int bs), some (.int bc), some (.int (nI t)), some (.int 0), v11]) dX0_termYielded_121 rfl (by decide) rfl rfl ?_
      refine aw_aload_n (npc := 124) rfl dX0_termYielded_123 rfl ?_
      refine aw_get (npc := 127) dX0_termYielded_124 rfl kf_X0_15 F.1 rfl ?_
      refine aw_iload (npc := 129) rfl dX0_termYielded_127 rfl ?_
      refine aw_iload (npc := 131) rfl dX0_termYielded_129 rfl ?_
      refine aw_callSN (npc := 134) (N := mX7_carePlace) (mc := 0) (ms := 0) (A := [.int 0, .int (nI t)]) (S := [.ref (b + 2)]) (L0 := [some (.int 0), some (.int (nI t))]) dX0_termYielded_131 rfl km_X7_carePlace kk_X0_87 rfl ⟨rfl, by decide⟩ rfl (Nat.le_of_ble_eq_true rfl) (Nat.zero_add _) (Nat.zero_add _) rfl ?_
      refine aw_iload_n (npc := 1) rfl dX7_carePlace_0 rfl ?_
      refine aw_iconst (npc := 2) (v := 4) (by decide) dX7_carePlace_1 rfl ?_
      refine aw_imulV (npc := 3) (v := 0) dX7_carePlace_2 rfl (by decide) ?_
      refine aw_iload_n (npc := 4) rfl dX7_carePlace_3 rfl ?_
      refine aw_iaddV (npc := 5) (v := nI (0 + t)) dX7_carePlace_4 rfl (nI_add 0 _) ?_
      refine aw_iret rfl dX7_carePlace_5 ?_
      refine aw_re (S' := [.int (nI (0 + t)), .ref (b + 2)]) rfl ?_
      refine aw_iald (npc := 135) (x := N (12 + 1 * (0 + t))) (j := (0 + t)) dX0_termYielded_134 rfl F.2.2.1 (am_ix_nI (by omega)) (tl_at (by omega)) ?_
      refine aw_istore (npc := 137) (L' := [some (.ref b), some (.int (nI f)), some (.int kd), some (.int 1), some (.int bo), some (.int 0), some (.int 0), some (.int bs), some (.int bc), some (.int (nI t)), some (.int 0), some (.int (N (12 + 1 * (0 + t))))]) dX0_termYielded_135 rfl (by decide) rfl rfl ?_
      refine aw_iload (npc := 139) rfl dX0_termYielded_137 rfl ?_
      refine aw_if_eq (npc := 142) (tgt := 177) dX0_termYielded_139 rfl (by decide) (fun _ => ?_) (fun hc => absurd (by decide) hc)
      refine aw_iinc (npc := 180) (v := nI (t + 1)) (L' := [some (.ref b), some (.int (nI f)), some (.int kd), some (.int 1), some (.int bo), some (.int 0), some (.int 0), some (.int bs), some (.int bc), some (.int (nI (t + 1))), some (.int 0), some (.int (N (12 + 1 * (0 + t))))]) dX0_termYielded_177 rfl rfl (nI_1 _) (by decide) rfl rfl ?_
      refine aw_goto (npc := 76) dX0_termYielded_180 (by decide) ?_
      refine ih (t + 1) (by omega) bs bc _ _ ?_
      have e9 : tyStp 1 0 0 N t (bs, bc) = (bs, bc) := by simp [tyStp, hc2, -Nat.one_mul, -Nat.zero_add]
      exact (congrArg (tyM 1 0 0 N m (t + 1)) e9) ▸ hq
    · refine aw_iconst (npc := 117) (v := 1) (by decide) dX0_termYielded_116 rfl ?_
      refine aw_goto (npc := 121) dX0_termYielded_117 (by decide) ?_
      refine aw_istore (npc := 123) (L' := [some (.ref b), some (.int (nI f)), some (.int kd), some (.int 1), some (.int bo), some (.int 0), some (.int 0), some (.int bs), some (.int bc), some (.int (nI t)), some (.int 1), v11]) dX0_termYielded_121 rfl (by decide) rfl rfl ?_
      refine aw_aload_n (npc := 124) rfl dX0_termYielded_123 rfl ?_
      refine aw_get (npc := 127) dX0_termYielded_124 rfl kf_X0_15 F.1 rfl ?_
      refine aw_iload (npc := 129) rfl dX0_termYielded_127 rfl ?_
      refine aw_iload (npc := 131) rfl dX0_termYielded_129 rfl ?_
      refine aw_callSN (npc := 134) (N := mX7_carePlace) (mc := 0) (ms := 0) (A := [.int 0, .int (nI t)]) (S := [.ref (b + 2)]) (L0 := [some (.int 0), some (.int (nI t))]) dX0_termYielded_131 rfl km_X7_carePlace kk_X0_87 rfl ⟨rfl, by decide⟩ rfl (Nat.le_of_ble_eq_true rfl) (Nat.zero_add _) (Nat.zero_add _) rfl ?_
      refine aw_iload_n (npc := 1) rfl dX7_carePlace_0 rfl ?_
      refine aw_iconst (npc := 2) (v := 4) (by decide) dX7_carePlace_1 rfl ?_
      refine aw_imulV (npc := 3) (v := 0) dX7_carePlace_2 rfl (by decide) ?_
      refine aw_iload_n (npc := 4) rfl dX7_carePlace_3 rfl ?_
      refine aw_iaddV (npc := 5) (v := nI (0 + t)) dX7_carePlace_4 rfl (nI_add 0 _) ?_
      refine aw_iret rfl dX7_carePlace_5 ?_
      refine aw_re (S' := [.int (nI (0 + t)), .ref (b + 2)]) rfl ?_
      refine aw_iald (npc := 135) (x := N (12 + 1 * (0 + t))) (j := (0 + t)) dX0_termYielded_134 rfl F.2.2.1 (am_ix_nI (by omega)) (tl_at (by omega)) ?_
      refine aw_istore (npc := 137) (L' := [some (.ref b), some (.int (nI f)), some (.int kd), some (.int 1), some (.int bo), some (.int 0), some (.int 0), some (.int bs), some (.int bc), some (.int (nI t)), some (.int 1), some (.int (N (12 + 1 * (0 + t))))]) dX0_termYielded_135 rfl (by decide) rfl rfl ?_
      refine aw_iload (npc := 139) rfl dX0_termYielded_137 rfl ?_
      refine aw_if_eq (npc := 142) (tgt := 177) dX0_termYielded_139 rfl (by decide) (fun hc => absurd hc (by decide)) (fun _ => ?_)
      refine aw_iload (npc := 144) rfl dX0_termYielded_142 rfl ?_
      refine aw_if_lt (npc := 147) (tgt := 169) dX0_termYielded_144 rfl (by decide) (fun hc3 => ?_) (fun hc3 => ?_)
      · refine aw_iload (npc := 171) rfl dX0_termYielded_169 rfl ?_
        refine aw_istore (npc := 173) (L' := [some (.ref b), some (.int (nI f)), some (.int kd), some (.int 1), some (.int bo), some (.int 0), some (.int 0), some (.int (nI t)), some (.int bc), some (.int (nI t)), some (.int 1), some (.int (N (12 + 1 * (0 + t))))]) dX0_termYielded_171 rfl (by decide) rfl rfl ?_
        refine aw_iload (npc := 175) rfl dX0_termYielded_173 rfl ?_
        refine aw_istore (npc := 177) (L' := [some (.ref b), some (.int (nI f)), some (.int kd), some (.int 1), some (.int bo), some (.int 0), some (.int 0), some (.int (nI t)), some (.int (N (12 + 1 * (0 + t)))), some (.int (nI t)), some (.int 1), some (.int (N (12 + 1 * (0 + t))))]) dX0_termYielded_175 rfl (by decide) rfl rfl ?_
        refine aw_iinc (npc := 180) (v := nI (t + 1)) (L' := [some (.ref b), some (.int (nI f)), some (.int kd), some (.int 1), some (.int bo), some (.int 0), some (.int 0), some (.int (nI t)), some (.int (N (12 + 1 * (0 + t)))), some (.int (nI (t + 1))), some (.int 1), some (.int (N (12 + 1 * (0 + t))))]) dX0_termYielded_177 rfl rfl (nI_1 _) (by decide) rfl rfl ?_
        refine aw_goto (npc := 76) dX0_termYielded_180 (by decide) ?_
        refine ih (t + 1) (by omega) (nI t) (N (12 + 1 * (0 + t))) _ _ ?_
        have e9 : tyStp 1 0 0 N t (bs, bc) = (nI t, N (12 + 1 * (0 + t))) := by simp [tyStp, hc2, hc3, -Nat.one_mul, -Nat.zero_add]
        exact (congrArg (tyM 1 0 0 N m (t + 1)) e9) ▸ hq
      · refine aw_iload (npc := 149) rfl dX0_termYielded_147 rfl ?_
        refine aw_if_eq (npc := 152) (tgt := 162) dX0_termYielded_149 rfl (by decide) (fun _ => ?_) (fun hc => absurd (by decide) hc)
        refine aw_iload (npc := 164) rfl dX0_termYielded_162 rfl ?_
        refine aw_iload (npc := 166) rfl dX0_termYielded_164 rfl ?_
        refine aw_icmp_ge (npc := 169) (tgt := 177) dX0_termYielded_166 rfl (by decide) (fun hc4 => ?_) (fun hc4 => ?_)
        · refine aw_iinc (npc := 180) (v := nI (t + 1)) (L' := [some (.ref b), some (.int (nI f)), some (.int kd), some (.int 1), some (.int bo), some (.int 0), some (.int 0), some (.int bs), some (.int bc), some (.int (nI (t + 1))), some (.int 1), some (.int (N (12 + 1 * (0 + t))))]) dX0_termYielded_177 rfl rfl (nI_1 _) (by decide) rfl rfl ?_
          refine aw_goto (npc := 76) dX0_termYielded_180 (by decide) ?_
          refine ih (t + 1) (by omega) bs bc _ _ ?_
          have e9 : tyStp 1 0 0 N t (bs, bc) = (bs, bc) := by simp [tyStp, hc2, hc3, hc4, -Nat.one_mul, -Nat.zero_add]
          exact (congrArg (tyM 1 0 0 N m (t + 1)) e9) ▸ hq
        · refine aw_iload (npc := 171) rfl dX0_termYielded_169 rfl ?_
          refine aw_istore (npc := 173) (L' := [some (.ref b), some (.int (nI f)), some (.int kd), some (.int 1), some (.int bo), some (.int 0), some (.int 0), some (.int (nI t)), some (.int bc), some (.int (nI t)), some (.int 1), some (.int (N (12 + 1 * (0 + t))))]) dX0_termYielded_171 rfl (by decide) rfl rfl ?_
          refine aw_iload (npc := 175) rfl dX0_termYielded_173 rfl ?_
          refine aw_istore (npc := 177) (L' := [some (.ref b), some (.int (nI f)), some (.int kd), some (.int 1), some (.int bo), some (.int 0), some (.int 0), some (.int (nI t)), some (.int (N (12 + 1 * (0 + t)))), some (.int (nI t)), some (.int 1), some (.int (N (12 + 1 * (0 + t))))]) dX0_termYielded_175 rfl (by decide) rfl rfl ?_
          refine aw_iinc (npc := 180) (v := nI (t + 1)) (L' := [some (.ref b), some (.int (nI f)), some (.int kd), some (.int 1), some (.int bo), some (.int 0), some (.int 0), some (.int (nI t)), some (.int (N (12 + 1 * (0 + t)))), some (.int (nI (t + 1))), some (.int 1), some (.int (N (12 + 1 * (0 + t))))]) dX0_termYielded_177 rfl rfl (nI_1 _) (by decide) rfl rfl ?_
          refine aw_goto (npc := 76) dX0_termYielded_180 (by decide) ?_
          refine ih (t + 1) (by omega) (nI t) (N (12 + 1 * (0 + t))) _ _ ?_
          have e9 : tyStp 1 0 0 N t (bs, bc) = (nI t, N (12 + 1 * (0 + t))) := by simp [tyStp, hc2, hc3, hc4, -Nat.one_mul, -Nat.zero_add]
          exact (congrArg (tyM 1 0 0 N m (t + 1)) e9) ▸ hq
set_option maxHeartbeats 4000000 in
set_option maxRecDepth 100000 in
theorem g_tyL101 {X : List Int32} {d rc rs n : Nat} {Q : am_Q} {b : Nat} {N : Nat → Int32} {tx : List Value} {lk mv : Nat → Int32} {h : am_H} {f : Nat} {kd bo : Int32} (F : QR b N tx lk mv h) : ∀ (m t : Nat), t + m = 4 → ∀ (bs bc : Int32) (v10 v11 : Option Value), Q (some (.int (tyM 1 0 4 N m t (bs, bc)).1)) n h → AW X mX0_termYielded (d + 3) rc rs 76 [some (.ref b), some (.int (nI f)), some (.int kd), some (.int 1), some (.int bo), some (.int 0), some (.int 1), some (.int bs), some (.int bc), some (.int (nI t)), v10, v11] [] n h Q := by
  intro m
  induction m with
  | zero =>
    intro t ht bs bc v10 v11 hq
    obtain rfl : t = 4 := by omega
    refine aw_iload (npc := 78) rfl dX0_termYielded_76 rfl ?_
    refine aw_iconst (npc := 79) (v := 4) (by decide) dX0_termYielded_78 rfl ?_
    refine aw_icmp_ge (npc := 82) (tgt := 183) dX0_termYielded_79 rfl (by decide) (fun _ => ?_) (fun hc => absurd (nI_le (a := 4) (b := 4) (by omega) (by omega)) hc)
    refine aw_iload (npc := 185) rfl dX0_termYielded_183 rfl ?_
    refine aw_iret rfl dX0_termYielded_185 ?_
    exact hq
  | succ m ih =>
    intro t ht bs bc v10 v11 hq
    refine aw_iload (npc := 78) rfl dX0_termYielded_76 rfl ?_
    refine aw_iconst (npc := 79) (v := 4) (by decide) dX0_termYielded_78 rfl ?_
    refine aw_icmp_ge (npc := 82) (tgt := 183) dX0_termYielded_79 rfl (by decide) (fun hc => absurd hc (nI_ge (a := t) (b := 4) (by omega) (by omega))) (fun _ => ?_)
    refine aw_iload_n (npc := 83) rfl dX0_termYielded_82 rfl ?_
    refine aw_if_ne (npc := 86) (tgt := 104) dX0_termYielded_83 rfl (by decide) (fun _ => ?_) (fun hc => absurd hc (by decide))
    refine aw_aload_n (npc := 105) rfl dX0_termYielded_104 rfl ?_
    refine aw_get (npc := 108) dX0_termYielded_105 rfl kf_X0_9 F.1 rfl ?_
    refine aw_iload (npc := 110) rfl dX0_termYielded_108 rfl ?_
    refine aw_iald (npc := 111) (x := N (8 + 1 * t)) (j := t) dX0_termYielded_110 rfl F.2.1 (am_ix_nI (by omega)) (tl_at (by omega)) ?_
    refine aw_bipush (npc := 113) (v := 9) (by decide) dX0_termYielded_111 rfl ?_
    refine aw_icmp_ge (npc := 116) (tgt := 120) dX0_termYielded_113 rfl (by decide) (fun hc2 => ?_) (fun hc2 => ?_)
    · refine aw_iconst (npc := 121) (v := 0) (by decide) dX0_termYielded_120 rfl ?_
      refine aw_istore (npc := 123) (L' := [some (.ref b), some (.int (nI f)), some (.int kd), some (.int 1), some (.int bo), some (.int 0), some (.int 1), some (.int bs), some (.int bc), some (.int (nI t)), some (.int 0), v11]) dX0_termYielded_121 rfl (by decide) rfl rfl ?_
      refine aw_aload_n (npc := 124) rfl dX0_termYielded_123 rfl ?_
      refine aw_get (npc := 127) dX0_termYielded_124 rfl kf_X0_15 F.1 rfl ?_
      refine aw_iload (npc := 129) rfl dX0_termYielded_127 rfl ?_
      refine aw_iload (npc := 131) rfl dX0_termYielded_129 rfl ?_
      refine aw_callSN (npc := 134) (N := mX7_carePlace) (mc := 0) (ms := 0) (A := [.int 1, .int (nI t)]) (S := [.ref (b + 2)]) (L0 := [some (.int 1), some (.int (nI t))]) dX0_termYielded_131 rfl km_X7_carePlace kk_X0_87 rfl ⟨rfl, by decide⟩ rfl (Nat.le_of_ble_eq_true rfl) (Nat.zero_add _) (Nat.zero_add _) rfl ?_
      refine aw_iload_n (npc := 1) rfl dX7_carePlace_0 rfl ?_
      refine aw_iconst (npc := 2) (v := 4) (by decide) dX7_carePlace_1 rfl ?_
      refine aw_imulV (npc := 3) (v := 4) dX7_carePlace_2 rfl (by decide) ?_
      refine aw_iload_n (npc := 4) rfl dX7_carePlace_3 rfl ?_
      refine aw_iaddV (npc := 5) (v := nI (4 + t)) dX7_carePlace_4 rfl (nI_add 4 _) ?_
      refine aw_iret rfl dX7_carePlace_5 ?_
      refine aw_re (S' := [.int (nI (4 + t)), .ref (b + 2)]) rfl ?_
      refine aw_iald (npc := 135) (x := N (12 + 1 * (4 + t))) (j := (4 + t)) dX0_termYielded_134 rfl F.2.2.1 (am_ix_nI (by omega)) (tl_at (by omega)) ?_
      refine aw_istore (npc := 137) (L' := [some (.ref b), some (.int (nI f)), some (.int kd), some (.int 1), some (.int bo), some (.int 0), some (.int 1), some (.int bs), some (.int bc), some (.int (nI t)), some (.int 0), some (.int (N (12 + 1 * (4 + t))))]) dX0_termYielded_135 rfl (by decide) rfl rfl ?_
      refine aw_iload (npc := 139) rfl dX0_termYielded_137 rfl ?_
      refine aw_if_eq (npc := 142) (tgt := 177) dX0_termYielded_139 rfl (by decide) (fun _ => ?_) (fun hc => absurd (by decide) hc)
      refine aw_iinc (npc := 180) (v := nI (t + 1)) (L' := [some (.ref b), some (.int (nI f)), some (.int kd), some (.int 1), some (.int bo), some (.int 0), some (.int 1), some (.int bs), some (.int bc), some (.int (nI (t + 1))), some (.int 0), some (.int (N (12 + 1 * (4 + t))))]) dX0_termYielded_177 rfl rfl (nI_1 _) (by decide) rfl rfl ?_
      refine aw_goto (npc := 76) dX0_termYielded_180 (by decide) ?_
      refine ih (t + 1) (by omega) bs bc _ _ ?_
      have e9 : tyStp 1 0 4 N t (bs, bc) = (bs, bc) := by simp [tyStp, hc2, -Nat.one_mul, -Nat.zero_add]
      exact (congrArg (tyM 1 0 4 N m (t + 1)) e9) ▸ hq
    · refine aw_iconst (npc := 117) (v := 1) (by decide) dX0_termYielded_116 rfl ?_
      refine aw_goto (npc := 121) dX0_termYielded_117 (by decide) ?_
      refine aw_istore (npc := 123) (L' := [some (.ref b), some (.int (nI f)), some (.int kd), some (.int 1), some (.int bo), some (.int 0), some (.int 1), some (.int bs), some (.int bc), some (.int (nI t)), some (.int 1), v11]) dX0_termYielded_121 rfl (by decide) rfl rfl ?_
      refine aw_aload_n (npc := 124) rfl dX0_termYielded_123 rfl ?_
      refine aw_get (npc := 127) dX0_termYielded_124 rfl kf_X0_15 F.1 rfl ?_
      refine aw_iload (npc := 129) rfl dX0_termYielded_127 rfl ?_
      refine aw_iload (npc := 131) rfl dX0_termYielded_129 rfl ?_
      refine aw_callSN (npc := 134) (N := mX7_carePlace) (mc := 0) (ms := 0) (A := [.int 1, .int (nI t)]) (S := [.ref (b + 2)]) (L0 := [some (.int 1), some (.int (nI t))]) dX0_termYielded_131 rfl km_X7_carePlace kk_X0_87 rfl ⟨rfl, by decide⟩ rfl (Nat.le_of_ble_eq_true rfl) (Nat.zero_add _) (Nat.zero_add _) rfl ?_
      refine aw_iload_n (npc := 1) rfl dX7_carePlace_0 rfl ?_
      refine aw_iconst (npc := 2) (v := 4) (by decide) dX7_carePlace_1 rfl ?_
      refine aw_imulV (npc := 3) (v := 4) dX7_carePlace_2 rfl (by decide) ?_
      refine aw_iload_n (npc := 4) rfl dX7_carePlace_3 rfl ?_
      refine aw_iaddV (npc := 5) (v := nI (4 + t)) dX7_carePlace_4 rfl (nI_add 4 _) ?_
      refine aw_iret rfl dX7_carePlace_5 ?_
      refine aw_re (S' := [.int (nI (4 + t)), .ref (b + 2)]) rfl ?_
      refine aw_iald (npc := 135) (x := N (12 + 1 * (4 + t))) (j := (4 + t)) dX0_termYielded_134 rfl F.2.2.1 (am_ix_nI (by omega)) (tl_at (by omega)) ?_
      refine aw_istore (npc := 137) (L' := [some (.ref b), some (.int (nI f)), some (.int kd), some (.int 1), some (.int bo), some (.int 0), some (.int 1), some (.int bs), some (.int bc), some (.int (nI t)), some (.int 1), some (.int (N (12 + 1 * (4 + t))))]) dX0_termYielded_135 rfl (by decide) rfl rfl ?_
      refine aw_iload (npc := 139) rfl dX0_termYielded_137 rfl ?_
      refine aw_if_eq (npc := 142) (tgt := 177) dX0_termYielded_139 rfl (by decide) (fun hc => absurd hc (by decide)) (fun _ => ?_)
      refine aw_iload (npc := 144) rfl dX0_termYielded_142 rfl ?_
      refine aw_if_lt (npc := 147) (tgt := 169) dX0_termYielded_144 rfl (by decide) (fun hc3 => ?_) (fun hc3 => ?_)
      · refine aw_iload (npc := 171) rfl dX0_termYielded_169 rfl ?_
        refine aw_istore (npc := 173) (L' := [some (.ref b), some (.int (nI f)), some (.int kd), some (.int 1), some (.int bo), some (.int 0), some (.int 1), some (.int (nI t)), some (.int bc), some (.int (nI t)), some (.int 1), some (.int (N (12 + 1 * (4 + t))))]) dX0_termYielded_171 rfl (by decide) rfl rfl ?_
        refine aw_iload (npc := 175) rfl dX0_termYielded_173 rfl ?_
        refine aw_istore (npc := 177) (L' := [some (.ref b), some (.int (nI f)), some (.int kd), some (.int 1), some (.int bo), some (.int 0), some (.int 1), some (.int (nI t)), some (.int (N (12 + 1 * (4 + t)))), some (.int (nI t)), some (.int 1), some (.int (N (12 + 1 * (4 + t))))]) dX0_termYielded_175 rfl (by decide) rfl rfl ?_
        refine aw_iinc (npc := 180) (v := nI (t + 1)) (L' := [some (.ref b), some (.int (nI f)), some (.int kd), some (.int 1), some (.int bo), some (.int 0), some (.int 1), some (.int (nI t)), some (.int (N (12 + 1 * (4 + t)))), some (.int (nI (t + 1))), some (.int 1), some (.int (N (12 + 1 * (4 + t))))]) dX0_termYielded_177 rfl rfl (nI_1 _) (by decide) rfl rfl ?_
        refine aw_goto (npc := 76) dX0_termYielded_180 (by decide) ?_
        refine ih (t + 1) (by omega) (nI t) (N (12 + 1 * (4 + t))) _ _ ?_
        have e9 : tyStp 1 0 4 N t (bs, bc) = (nI t, N (12 + 1 * (4 + t))) := by simp [tyStp, hc2, hc3, -Nat.one_mul, -Nat.zero_add]
        exact (congrArg (tyM 1 0 4 N m (t + 1)) e9) ▸ hq
      · refine aw_iload (npc := 149) rfl dX0_termYielded_147 rfl ?_
        refine aw_if_eq (npc := 152) (tgt := 162) dX0_termYielded_149 rfl (by decide) (fun _ => ?_) (fun hc => absurd (by decide) hc)
        refine aw_iload (npc := 164) rfl dX0_termYielded_162 rfl ?_
        refine aw_iload (npc := 166) rfl dX0_termYielded_164 rfl ?_
        refine aw_icmp_ge (npc := 169) (tgt := 177) dX0_termYielded_166 rfl (by decide) (fun hc4 => ?_) (fun hc4 => ?_)
        · refine aw_iinc (npc := 180) (v := nI (t + 1)) (L' := [some (.ref b), some (.int (nI f)), some (.int kd), some (.int 1), some (.int bo), some (.int 0), some (.int 1), some (.int bs), some (.int bc), some (.int (nI (t + 1))), some (.int 1), some (.int (N (12 + 1 * (4 + t))))]) dX0_termYielded_177 rfl rfl (nI_1 _) (by decide) rfl rfl ?_
          refine aw_goto (npc := 76) dX0_termYielded_180 (by decide) ?_
          refine ih (t + 1) (by omega) bs bc _ _ ?_
          have e9 : tyStp 1 0 4 N t (bs, bc) = (bs, bc) := by simp [tyStp, hc2, hc3, hc4, -Nat.one_mul, -Nat.zero_add]
          exact (congrArg (tyM 1 0 4 N m (t + 1)) e9) ▸ hq
        · refine aw_iload (npc := 171) rfl dX0_termYielded_169 rfl ?_
          refine aw_istore (npc := 173) (L' := [some (.ref b), some (.int (nI f)), some (.int kd), some (.int 1), some (.int bo), some (.int 0), some (.int 1), some (.int (nI t)), some (.int bc), some (.int (nI t)), some (.int 1), some (.int (N (12 + 1 * (4 + t))))]) dX0_termYielded_171 rfl (by decide) rfl rfl ?_
          refine aw_iload (npc := 175) rfl dX0_termYielded_173 rfl ?_
          refine aw_istore (npc := 177) (L' := [some (.ref b), some (.int (nI f)), some (.int kd), some (.int 1), some (.int bo), some (.int 0), some (.int 1), some (.int (nI t)), some (.int (N (12 + 1 * (4 + t)))), some (.int (nI t)), some (.int 1), some (.int (N (12 + 1 * (4 + t))))]) dX0_termYielded_175 rfl (by decide) rfl rfl ?_
          refine aw_iinc (npc := 180) (v := nI (t + 1)) (L' := [some (.ref b), some (.int (nI f)), some (.int kd), some (.int 1), some (.int bo), some (.int 0), some (.int 1), some (.int (nI t)), some (.int (N (12 + 1 * (4 + t)))), some (.int (nI (t + 1))), some (.int 1), some (.int (N (12 + 1 * (4 + t))))]) dX0_termYielded_177 rfl rfl (nI_1 _) (by decide) rfl rfl ?_
          refine aw_goto (npc := 76) dX0_termYielded_180 (by decide) ?_
          refine ih (t + 1) (by omega) (nI t) (N (12 + 1 * (4 + t))) _ _ ?_
          have e9 : tyStp 1 0 4 N t (bs, bc) = (nI t, N (12 + 1 * (4 + t))) := by simp [tyStp, hc2, hc3, hc4, -Nat.one_mul, -Nat.zero_add]
          exact (congrArg (tyM 1 0 4 N m (t + 1)) e9) ▸ hq
set_option maxHeartbeats 4000000 in
set_option maxRecDepth 100000 in
theorem g_tyL110 {X : List Int32} {d rc rs n : Nat} {Q : am_Q} {b : Nat} {N : Nat → Int32} {tx : List Value} {lk mv : Nat → Int32} {h : am_H} {f : Nat} {kd bo : Int32} (F : QR b N tx lk mv h) : ∀ (m t : Nat), t + m = 4 → ∀ (bs bc : Int32) (v10 v11 : Option Value), Q (some (.int (tyM 1 1 0 N m t (bs, bc)).1)) n h → AW X mX0_termYielded (d + 3) rc rs 76 [some (.ref b), some (.int (nI f)), some (.int kd), some (.int 1), some (.int bo), some (.int 1), some (.int 0), some (.int bs), some (.int bc), some (.int (nI t)), v10, v11] [] n h Q := by
  intro m
  induction m with
  | zero =>
    intro t ht bs bc v10 v11 hq
    obtain rfl : t = 4 := by omega
    refine aw_iload (npc := 78) rfl dX0_termYielded_76 rfl ?_
    refine aw_iconst (npc := 79) (v := 4) (by decide) dX0_termYielded_78 rfl ?_
    refine aw_icmp_ge (npc := 82) (tgt := 183) dX0_termYielded_79 rfl (by decide) (fun _ => ?_) (fun hc => absurd (nI_le (a := 4) (b := 4) (by omega) (by omega)) hc)
    refine aw_iload (npc := 185) rfl dX0_termYielded_183 rfl ?_
    refine aw_iret rfl dX0_termYielded_185 ?_
    exact hq
  | succ m ih =>
    intro t ht bs bc v10 v11 hq
    refine aw_iload (npc := 78) rfl dX0_termYielded_76 rfl ?_
    refine aw_iconst (npc := 79) (v := 4) (by decide) dX0_termYielded_78 rfl ?_
    refine aw_icmp_ge (npc := 82) (tgt := 183) dX0_termYielded_79 rfl (by decide) (fun hc => absurd hc (nI_ge (a := t) (b := 4) (by omega) (by omega))) (fun _ => ?_)
    refine aw_iload_n (npc := 83) rfl dX0_termYielded_82 rfl ?_
    refine aw_if_ne (npc := 86) (tgt := 104) dX0_termYielded_83 rfl (by decide) (fun _ => ?_) (fun hc => absurd hc (by decide))
    refine aw_aload_n (npc := 105) rfl dX0_termYielded_104 rfl ?_
    refine aw_get (npc := 108) dX0_termYielded_105 rfl kf_X0_9 F.1 rfl ?_
    refine aw_iload (npc := 110) rfl dX0_termYielded_108 rfl ?_
    refine aw_iald (npc := 111) (x := N (8 + 1 * t)) (j := t) dX0_termYielded_110 rfl F.2.1 (am_ix_nI (by omega)) (tl_at (by omega)) ?_
    refine aw_bipush (npc := 113) (v := 9) (by decide) dX0_termYielded_111 rfl ?_
    refine aw_icmp_ge (npc := 116) (tgt := 120) dX0_termYielded_113 rfl (by decide) (fun hc2 => ?_) (fun hc2 => ?_)
    · refine aw_iconst (npc := 121) (v := 0) (by decide) dX0_termYielded_120 rfl ?_
      refine aw_istore (npc := 123) (L' := [some (.ref b), some (.int (nI f)), some (.int kd), some (.int 1), some (.int bo), some (.int 1), some (.int 0), some (.int bs), some (.int bc), some (.int (nI t)), some (.int 0), v11]) dX0_termYielded_121 rfl (by decide) rfl rfl ?_
      refine aw_aload_n (npc := 124) rfl dX0_termYielded_123 rfl ?_
      refine aw_get (npc := 127) dX0_termYielded_124 rfl kf_X0_15 F.1 rfl ?_
      refine aw_iload (npc := 129) rfl dX0_termYielded_127 rfl ?_
      refine aw_iload (npc := 131) rfl dX0_termYielded_129 rfl ?_
      refine aw_callSN (npc := 134) (N := mX7_carePlace) (mc := 0) (ms := 0) (A := [.int 0, .int (nI t)]) (S := [.ref (b + 2)]) (L0 := [some (.int 0), some (.int (nI t))]) dX0_termYielded_131 rfl km_X7_carePlace kk_X0_87 rfl ⟨rfl, by decide⟩ rfl (Nat.le_of_ble_eq_true rfl) (Nat.zero_add _) (Nat.zero_add _) rfl ?_
      refine aw_iload_n (npc := 1) rfl dX7_carePlace_0 rfl ?_
      refine aw_iconst (npc := 2) (v := 4) (by decide) dX7_carePlace_1 rfl ?_
      refine aw_imulV (npc := 3) (v := 0) dX7_carePlace_2 rfl (by decide) ?_
      refine aw_iload_n (npc := 4) rfl dX7_carePlace_3 rfl ?_
      refine aw_iaddV (npc := 5) (v := nI (0 + t)) dX7_carePlace_4 rfl (nI_add 0 _) ?_
      refine aw_iret rfl dX7_carePlace_5 ?_
      refine aw_re (S' := [.int (nI (0 + t)), .ref (b + 2)]) rfl ?_
      refine aw_iald (npc := 135) (x := N (12 + 1 * (0 + t))) (j := (0 + t)) dX0_termYielded_134 rfl F.2.2.1 (am_ix_nI (by omega)) (tl_at (by omega)) ?_
      refine aw_istore (npc := 137) (L' := [some (.ref b), some (.int (nI f)), some (.int kd), some (.int 1), some (.int bo), some (.int 1), some (.int 0), some (.int bs), some (.int bc), some (.int (nI t)), some (.int 0), some (.int (N (12 + 1 * (0 + t))))]) dX0_termYielded_135 rfl (by decide) rfl rfl ?_
      refine aw_iload (npc := 139) rfl dX0_termYielded_137 rfl ?_
      refine aw_if_eq (npc := 142) (tgt := 177) dX0_termYielded_139 rfl (by decide) (fun _ => ?_) (fun hc => absurd (by decide) hc)
      refine aw_iinc (npc := 180) (v := nI (t + 1)) (L' := [some (.ref b), some (.int (nI f)), some (.int kd), some (.int 1), some (.int bo), some (.int 1), some (.int 0), some (.int bs), some (.int bc), some (.int (nI (t + 1))), some (.int 0), some (.int (N (12 + 1 * (0 + t))))]) dX0_termYielded_177 rfl rfl (nI_1 _) (by decide) rfl rfl ?_
      refine aw_goto (npc := 76) dX0_termYielded_180 (by decide) ?_
      refine ih (t + 1) (by omega) bs bc _ _ ?_
      have e9 : tyStp 1 1 0 N t (bs, bc) = (bs, bc) := by simp [tyStp, hc2, -Nat.one_mul, -Nat.zero_add]
      exact (congrArg (tyM 1 1 0 N m (t + 1)) e9) ▸ hq
    · refine aw_iconst (npc := 117) (v := 1) (by decide) dX0_termYielded_116 rfl ?_
      refine aw_goto (npc := 121) dX0_termYielded_117 (by decide) ?_
      refine aw_istore (npc := 123) (L' := [some (.ref b), some (.int (nI f)), some (.int kd), some (.int 1), some (.int bo), some (.int 1), some (.int 0), some (.int bs), some (.int bc), some (.int (nI t)), some (.int 1), v11]) dX0_termYielded_121 rfl (by decide) rfl rfl ?_
      refine aw_aload_n (npc := 124) rfl dX0_termYielded_123 rfl ?_
      refine aw_get (npc := 127) dX0_termYielded_124 rfl kf_X0_15 F.1 rfl ?_
      refine aw_iload (npc := 129) rfl dX0_termYielded_127 rfl ?_
      refine aw_iload (npc := 131) rfl dX0_termYielded_129 rfl ?_
      refine aw_callSN (npc := 134) (N := mX7_carePlace) (mc := 0) (ms := 0) (A := [.int 0, .int (nI t)]) (S := [.ref (b + 2)]) (L0 := [some (.int 0), some (.int (nI t))]) dX0_termYielded_131 rfl km_X7_carePlace kk_X0_87 rfl ⟨rfl, by decide⟩ rfl (Nat.le_of_ble_eq_true rfl) (Nat.zero_add _) (Nat.zero_add _) rfl ?_
      refine aw_iload_n (npc := 1) rfl dX7_carePlace_0 rfl ?_
      refine aw_iconst (npc := 2) (v := 4) (by decide) dX7_carePlace_1 rfl ?_
      refine aw_imulV (npc := 3) (v := 0) dX7_carePlace_2 rfl (by decide) ?_
      refine aw_iload_n (npc := 4) rfl dX7_carePlace_3 rfl ?_
      refine aw_iaddV (npc := 5) (v := nI (0 + t)) dX7_carePlace_4 rfl (nI_add 0 _) ?_
      refine aw_iret rfl dX7_carePlace_5 ?_
      refine aw_re (S' := [.int (nI (0 + t)), .ref (b + 2)]) rfl ?_
      refine aw_iald (npc := 135) (x := N (12 + 1 * (0 + t))) (j := (0 + t)) dX0_termYielded_134 rfl F.2.2.1 (am_ix_nI (by omega)) (tl_at (by omega)) ?_
      refine aw_istore (npc := 137) (L' := [some (.ref b), some (.int (nI f)), some (.int kd), some (.int 1), some (.int bo), some (.int 1), some (.int 0), some (.int bs), some (.int bc), some (.int (nI t)), some (.int 1), some (.int (N (12 + 1 * (0 + t))))]) dX0_termYielded_135 rfl (by decide) rfl rfl ?_
      refine aw_iload (npc := 139) rfl dX0_termYielded_137 rfl ?_
      refine aw_if_eq (npc := 142) (tgt := 177) dX0_termYielded_139 rfl (by decide) (fun hc => absurd hc (by decide)) (fun _ => ?_)
      refine aw_iload (npc := 144) rfl dX0_termYielded_142 rfl ?_
      refine aw_if_lt (npc := 147) (tgt := 169) dX0_termYielded_144 rfl (by decide) (fun hc3 => ?_) (fun hc3 => ?_)
      · refine aw_iload (npc := 171) rfl dX0_termYielded_169 rfl ?_
        refine aw_istore (npc := 173) (L' := [some (.ref b), some (.int (nI f)), some (.int kd), some (.int 1), some (.int bo), some (.int 1), some (.int 0), some (.int (nI t)), some (.int bc), some (.int (nI t)), some (.int 1), some (.int (N (12 + 1 * (0 + t))))]) dX0_termYielded_171 rfl (by decide) rfl rfl ?_
        refine aw_iload (npc := 175) rfl dX0_termYielded_173 rfl ?_
        refine aw_istore (npc := 177) (L' := [some (.ref b), some (.int (nI f)), some (.int kd), some (.int 1), some (.int bo), some (.int 1), some (.int 0), some (.int (nI t)), some (.int (N (12 + 1 * (0 + t)))), some (.int (nI t)), some (.int 1), some (.int (N (12 + 1 * (0 + t))))]) dX0_termYielded_175 rfl (by decide) rfl rfl ?_
        refine aw_iinc (npc := 180) (v := nI (t + 1)) (L' := [some (.ref b), some (.int (nI f)), some (.int kd), some (.int 1), some (.int bo), some (.int 1), some (.int 0), some (.int (nI t)), some (.int (N (12 + 1 * (0 + t)))), some (.int (nI (t + 1))), some (.int 1), some (.int (N (12 + 1 * (0 + t))))]) dX0_termYielded_177 rfl rfl (nI_1 _) (by decide) rfl rfl ?_
        refine aw_goto (npc := 76) dX0_termYielded_180 (by decide) ?_
        refine ih (t + 1) (by omega) (nI t) (N (12 + 1 * (0 + t))) _ _ ?_
        have e9 : tyStp 1 1 0 N t (bs, bc) = (nI t, N (12 + 1 * (0 + t))) := by simp [tyStp, hc2, hc3, -Nat.one_mul, -Nat.zero_add]
        exact (congrArg (tyM 1 1 0 N m (t + 1)) e9) ▸ hq
      · refine aw_iload (npc := 149) rfl dX0_termYielded_147 rfl ?_
        refine aw_if_eq (npc := 152) (tgt := 162) dX0_termYielded_149 rfl (by decide) (fun hc => absurd hc (by decide)) (fun _ => ?_)
        refine aw_iload (npc := 154) rfl dX0_termYielded_152 rfl ?_
        refine aw_iload (npc := 156) rfl dX0_termYielded_154 rfl ?_
        refine aw_icmp_le (npc := 159) (tgt := 177) dX0_termYielded_156 rfl (by decide) (fun hc4 => ?_) (fun hc4 => ?_)
        · refine aw_iinc (npc := 180) (v := nI (t + 1)) (L' := [some (.ref b), some (.int (nI f)), some (.int kd), some (.int 1), some (.int bo), some (.int 1), some (.int 0), some (.int bs), some (.int bc), some (.int (nI (t + 1))), some (.int 1), some (.int (N (12 + 1 * (0 + t))))]) dX0_termYielded_177 rfl rfl (nI_1 _) (by decide) rfl rfl ?_
          refine aw_goto (npc := 76) dX0_termYielded_180 (by decide) ?_
          refine ih (t + 1) (by omega) bs bc _ _ ?_
          have e9 : tyStp 1 1 0 N t (bs, bc) = (bs, bc) := by simp [tyStp, hc2, hc3, hc4, -Nat.one_mul, -Nat.zero_add]
          exact (congrArg (tyM 1 1 0 N m (t + 1)) e9) ▸ hq
        · refine aw_goto (npc := 169) dX0_termYielded_159 (by decide) ?_
          refine aw_iload (npc := 171) rfl dX0_termYielded_169 rfl ?_
          refine aw_istore (npc := 173) (L' := [some (.ref b), some (.int (nI f)), some (.int kd), some (.int 1), some (.int bo), some (.int 1), some (.int 0), some (.int (nI t)), some (.int bc), some (.int (nI t)), some (.int 1), some (.int (N (12 + 1 * (0 + t))))]) dX0_termYielded_171 rfl (by decide) rfl rfl ?_
          refine aw_iload (npc := 175) rfl dX0_termYielded_173 rfl ?_
          refine aw_istore (npc := 177) (L' := [some (.ref b), some (.int (nI f)), some (.int kd), some (.int 1), some (.int bo), some (.int 1), some (.int 0), some (.int (nI t)), some (.int (N (12 + 1 * (0 + t)))), some (.int (nI t)), some (.int 1), some (.int (N (12 + 1 * (0 + t))))]) dX0_termYielded_175 rfl (by decide) rfl rfl ?_
          refine aw_iinc (npc := 180) (v := nI (t + 1)) (L' := [some (.ref b), some (.int (nI f)), some (.int kd), some (.int 1), some (.int bo), some (.int 1), some (.int 0), some (.int (nI t)), some (.int (N (12 + 1 * (0 + t)))), some (.int (nI (t + 1))), some (.int 1), some (.int (N (12 + 1 * (0 + t))))]) dX0_termYielded_177 rfl rfl (nI_1 _) (by decide) rfl rfl ?_
          refine aw_goto (npc := 76) dX0_termYielded_180 (by decide) ?_
          refine ih (t + 1) (by omega) (nI t) (N (12 + 1 * (0 + t))) _ _ ?_
          have e9 : tyStp 1 1 0 N t (bs, bc) = (nI t, N (12 + 1 * (0 + t))) := by simp [tyStp, hc2, hc3, hc4, -Nat.one_mul, -Nat.zero_add]
          exact (congrArg (tyM 1 1 0 N m (t + 1)) e9) ▸ hq
set_option maxHeartbeats 4000000 in
set_option maxRecDepth 100000 in
theorem g_tyL111 {X : List Int32} {d rc rs n : Nat} {Q : am_Q} {b : Nat} {N : Nat → Int32} {tx : List Value} {lk mv : Nat → Int32} {h : am_H} {f : Nat} {kd bo : Int32} (F : QR b N tx lk mv h) : ∀ (m t : Nat), t + m = 4 → ∀ (bs bc : Int32) (v10 v11 : Option Value), Q (some (.int (tyM 1 1 4 N m t (bs, bc)).1)) n h → AW X mX0_termYielded (d + 3) rc rs 76 [some (.ref b), some (.int (nI f)), some (.int kd), some (.int 1), some (.int bo), some (.int 1), some (.int 1), some (.int bs), some (.int bc), some (.int (nI t)), v10, v11] [] n h Q := by
  intro m
  induction m with
  | zero =>
    intro t ht bs bc v10 v11 hq
    obtain rfl : t = 4 := by omega
    refine aw_iload (npc := 78) rfl dX0_termYielded_76 rfl ?_
    refine aw_iconst (npc := 79) (v := 4) (by decide) dX0_termYielded_78 rfl ?_
    refine aw_icmp_ge (npc := 82) (tgt := 183) dX0_termYielded_79 rfl (by decide) (fun _ => ?_) (fun hc => absurd (nI_le (a := 4) (b := 4) (by omega) (by omega)) hc)
    refine aw_iload (npc := 185) rfl dX0_termYielded_183 rfl ?_
    refine aw_iret rfl dX0_termYielded_185 ?_
    exact hq
  | succ m ih =>
    intro t ht bs bc v10 v11 hq
    refine aw_iload (npc := 78) rfl dX0_termYielded_76 rfl ?_
    refine aw_iconst (npc := 79) (v := 4) (by decide) dX0_termYielded_78 rfl ?_
    refine aw_icmp_ge (npc := 82) (tgt := 183) dX0_termYielded_79 rfl (by decide) (fun hc => absurd hc (nI_ge (a := t) (b := 4) (by omega) (by omega))) (fun _ => ?_)
    refine aw_iload_n (npc := 83) rfl dX0_termYielded_82 rfl ?_
    refine aw_if_ne (npc := 86) (tgt := 104) dX0_termYielded_83 rfl (by decide) (fun _ => ?_) (fun hc => absurd hc (by decide))
    refine aw_aload_n (npc := 105) rfl dX0_termYielded_104 rfl ?_
    refine aw_get (npc := 108) dX0_termYielded_105 rfl kf_X0_9 F.1 rfl ?_
    refine aw_iload (npc := 110) rfl dX0_termYielded_108 rfl ?_
    refine aw_iald (npc := 111) (x := N (8 + 1 * t)) (j := t) dX0_termYielded_110 rfl F.2.1 (am_ix_nI (by omega)) (tl_at (by omega)) ?_
    refine aw_bipush (npc := 113) (v := 9) (by decide) dX0_termYielded_111 rfl ?_
    refine aw_icmp_ge (npc := 116) (tgt := 120) dX0_termYielded_113 rfl (by decide) (fun hc2 => ?_) (fun hc2 => ?_)
    · refine aw_iconst (npc := 121) (v := 0) (by decide) dX0_termYielded_120 rfl ?_
      refine aw_istore (npc := 123) (L' := [some (.ref b), some (.int (nI f)), some (.int kd), some (.int 1), some (.int bo), some (.int 1), some (.int 1), some (.int bs), some (.int bc), some (.int (nI t)), some (.int 0), v11]) dX0_termYielded_121 rfl (by decide) rfl rfl ?_
      refine aw_aload_n (npc := 124) rfl dX0_termYielded_123 rfl ?_
      refine aw_get (npc := 127) dX0_termYielded_124 rfl kf_X0_15 F.1 rfl ?_
      refine aw_iload (npc := 129) rfl dX0_termYielded_127 rfl ?_
      refine aw_iload (npc := 131) rfl dX0_termYielded_129 rfl ?_
      refine aw_callSN (npc := 134) (N := mX7_carePlace) (mc := 0) (ms := 0) (A := [.int 1, .int (nI t)]) (S := [.ref (b + 2)]) (L0 := [some (.int 1), some (.int (nI t))]) dX0_termYielded_131 rfl km_X7_carePlace kk_X0_87 rfl ⟨rfl, by decide⟩ rfl (Nat.le_of_ble_eq_true rfl) (Nat.zero_add _) (Nat.zero_add _) rfl ?_
      refine aw_iload_n (npc := 1) rfl dX7_carePlace_0 rfl ?_
      refine aw_iconst (npc := 2) (v := 4) (by decide) dX7_carePlace_1 rfl ?_
      refine aw_imulV (npc := 3) (v := 4) dX7_carePlace_2 rfl (by decide) ?_
      refine aw_iload_n (npc := 4) rfl dX7_carePlace_3 rfl ?_
      refine aw_iaddV (npc := 5) (v := nI (4 + t)) dX7_carePlace_4 rfl (nI_add 4 _) ?_
      refine aw_iret rfl dX7_carePlace_5 ?_
      refine aw_re (S' := [.int (nI (4 + t)), .ref (b + 2)]) rfl ?_
      refine aw_iald (npc := 135) (x := N (12 + 1 * (4 + t))) (j := (4 + t)) dX0_termYielded_134 rfl F.2.2.1 (am_ix_nI (by omega)) (tl_at (by omega)) ?_
      refine aw_istore (npc := 137) (L' := [some (.ref b), some (.int (nI f)), some (.int kd), some (.int 1), some (.int bo), some (.int 1), some (.int 1), some (.int bs), some (.int bc), some (.int (nI t)), some (.int 0), some (.int (N (12 + 1 * (4 + t))))]) dX0_termYielded_135 rfl (by decide) rfl rfl ?_
      refine aw_iload (npc := 139) rfl dX0_termYielded_137 rfl ?_
      refine aw_if_eq (npc := 142) (tgt := 177) dX0_termYielded_139 rfl (by decide) (fun _ => ?_) (fun hc => absurd (by decide) hc)
      refine aw_iinc (npc := 180) (v := nI (t + 1)) (L' := [some (.ref b), some (.int (nI f)), some (.int kd), some (.int 1), some (.int bo), some (.int 1), some (.int 1), some (.int bs), some (.int bc), some (.int (nI (t + 1))), some (.int 0), some (.int (N (12 + 1 * (4 + t))))]) dX0_termYielded_177 rfl rfl (nI_1 _) (by decide) rfl rfl ?_
      refine aw_goto (npc := 76) dX0_termYielded_180 (by decide) ?_
      refine ih (t + 1) (by omega) bs bc _ _ ?_
      have e9 : tyStp 1 1 4 N t (bs, bc) = (bs, bc) := by simp [tyStp, hc2, -Nat.one_mul, -Nat.zero_add]
      exact (congrArg (tyM 1 1 4 N m (t + 1)) e9) ▸ hq
    · refine aw_iconst (npc := 117) (v := 1) (by decide) dX0_termYielded_116 rfl ?_
      refine aw_goto (npc := 121) dX0_termYielded_117 (by decide) ?_
      refine aw_istore (npc := 123) (L' := [some (.ref b), some (.int (nI f)), some (.int kd), some (.int 1), some (.int bo), some (.int 1), some (.int 1), some (.int bs), some (.int bc), some (.int (nI t)), some (.int 1), v11]) dX0_termYielded_121 rfl (by decide) rfl rfl ?_
      refine aw_aload_n (npc := 124) rfl dX0_termYielded_123 rfl ?_
      refine aw_get (npc := 127) dX0_termYielded_124 rfl kf_X0_15 F.1 rfl ?_
      refine aw_iload (npc := 129) rfl dX0_termYielded_127 rfl ?_
      refine aw_iload (npc := 131) rfl dX0_termYielded_129 rfl ?_
      refine aw_callSN (npc := 134) (N := mX7_carePlace) (mc := 0) (ms := 0) (A := [.int 1, .int (nI t)]) (S := [.ref (b + 2)]) (L0 := [some (.int 1), some (.int (nI t))]) dX0_termYielded_131 rfl km_X7_carePlace kk_X0_87 rfl ⟨rfl, by decide⟩ rfl (Nat.le_of_ble_eq_true rfl) (Nat.zero_add _) (Nat.zero_add _) rfl ?_
      refine aw_iload_n (npc := 1) rfl dX7_carePlace_0 rfl ?_
      refine aw_iconst (npc := 2) (v := 4) (by decide) dX7_carePlace_1 rfl ?_
      refine aw_imulV (npc := 3) (v := 4) dX7_carePlace_2 rfl (by decide) ?_
      refine aw_iload_n (npc := 4) rfl dX7_carePlace_3 rfl ?_
      refine aw_iaddV (npc := 5) (v := nI (4 + t)) dX7_carePlace_4 rfl (nI_add 4 _) ?_
      refine aw_iret rfl dX7_carePlace_5 ?_
      refine aw_re (S' := [.int (nI (4 + t)), .ref (b + 2)]) rfl ?_
      refine aw_iald (npc := 135) (x := N (12 + 1 * (4 + t))) (j := (4 + t)) dX0_termYielded_134 rfl F.2.2.1 (am_ix_nI (by omega)) (tl_at (by omega)) ?_
      refine aw_istore (npc := 137) (L' := [some (.ref b), some (.int (nI f)), some (.int kd), some (.int 1), some (.int bo), some (.int 1), some (.int 1), some (.int bs), some (.int bc), some (.int (nI t)), some (.int 1), some (.int (N (12 + 1 * (4 + t))))]) dX0_termYielded_135 rfl (by decide) rfl rfl ?_
      refine aw_iload (npc := 139) rfl dX0_termYielded_137 rfl ?_
      refine aw_if_eq (npc := 142) (tgt := 177) dX0_termYielded_139 rfl (by decide) (fun hc => absurd hc (by decide)) (fun _ => ?_)
      refine aw_iload (npc := 144) rfl dX0_termYielded_142 rfl ?_
      refine aw_if_lt (npc := 147) (tgt := 169) dX0_termYielded_144 rfl (by decide) (fun hc3 => ?_) (fun hc3 => ?_)
      · refine aw_iload (npc := 171) rfl dX0_termYielded_169 rfl ?_
        refine aw_istore (npc := 173) (L' := [some (.ref b), some (.int (nI f)), some (.int kd), some (.int 1), some (.int bo), some (.int 1), some (.int 1), some (.int (nI t)), some (.int bc), some (.int (nI t)), some (.int 1), some (.int (N (12 + 1 * (4 + t))))]) dX0_termYielded_171 rfl (by decide) rfl rfl ?_
        refine aw_iload (npc := 175) rfl dX0_termYielded_173 rfl ?_
        refine aw_istore (npc := 177) (L' := [some (.ref b), some (.int (nI f)), some (.int kd), some (.int 1), some (.int bo), some (.int 1), some (.int 1), some (.int (nI t)), some (.int (N (12 + 1 * (4 + t)))), some (.int (nI t)), some (.int 1), some (.int (N (12 + 1 * (4 + t))))]) dX0_termYielded_175 rfl (by decide) rfl rfl ?_
        refine aw_iinc (npc := 180) (v := nI (t + 1)) (L' := [some (.ref b), some (.int (nI f)), some (.int kd), some (.int 1), some (.int bo), some (.int 1), some (.int 1), some (.int (nI t)), some (.int (N (12 + 1 * (4 + t)))), some (.int (nI (t + 1))), some (.int 1), some (.int (N (12 + 1 * (4 + t))))]) dX0_termYielded_177 rfl rfl (nI_1 _) (by decide) rfl rfl ?_
        refine aw_goto (npc := 76) dX0_termYielded_180 (by decide) ?_
        refine ih (t + 1) (by omega) (nI t) (N (12 + 1 * (4 + t))) _ _ ?_
        have e9 : tyStp 1 1 4 N t (bs, bc) = (nI t, N (12 + 1 * (4 + t))) := by simp [tyStp, hc2, hc3, -Nat.one_mul, -Nat.zero_add]
        exact (congrArg (tyM 1 1 4 N m (t + 1)) e9) ▸ hq
      · refine aw_iload (npc := 149) rfl dX0_termYielded_147 rfl ?_
        refine aw_if_eq (npc := 152) (tgt := 162) dX0_termYielded_149 rfl (by decide) (fun hc => absurd hc (by decide)) (fun _ => ?_)
        refine aw_iload (npc := 154) rfl dX0_termYielded_152 rfl ?_
        refine aw_iload (npc := 156) rfl dX0_termYielded_154 rfl ?_
        refine aw_icmp_le (npc := 159) (tgt := 177) dX0_termYielded_156 rfl (by decide) (fun hc4 => ?_) (fun hc4 => ?_)
        · refine aw_iinc (npc := 180) (v := nI (t + 1)) (L' := [some (.ref b), some (.int (nI f)), some (.int kd), some (.int 1), some (.int bo), some (.int 1), some (.int 1), some (.int bs), some (.int bc), some (.int (nI (t + 1))), some (.int 1), some (.int (N (12 + 1 * (4 + t))))]) dX0_termYielded_177 rfl rfl (nI_1 _) (by decide) rfl rfl ?_
          refine aw_goto (npc := 76) dX0_termYielded_180 (by decide) ?_
          refine ih (t + 1) (by omega) bs bc _ _ ?_
          have e9 : tyStp 1 1 4 N t (bs, bc) = (bs, bc) := by simp [tyStp, hc2, hc3, hc4, -Nat.one_mul, -Nat.zero_add]
          exact (congrArg (tyM 1 1 4 N m (t + 1)) e9) ▸ hq
        · refine aw_goto (npc := 169) dX0_termYielded_159 (by decide) ?_
          refine aw_iload (npc := 171) rfl dX0_termYielded_169 rfl ?_
          refine aw_istore (npc := 173) (L' := [some (.ref b), some (.int (nI f)), some (.int kd), some (.int 1), some (.int bo), some (.int 1), some (.int 1), some (.int (nI t)), some (.int bc), some (.int (nI t)), some (.int 1), some (.int (N (12 + 1 * (4 + t))))]) dX0_termYielded_171 rfl (by decide) rfl rfl ?_
          refine aw_iload (npc := 175) rfl dX0_termYielded_173 rfl ?_
          refine aw_istore (npc := 177) (L' := [some (.ref b), some (.int (nI f)), some (.int kd), some (.int 1), some (.int bo), some (.int 1), some (.int 1), some (.int (nI t)), some (.int (N (12 + 1 * (4 + t)))), some (.int (nI t)), some (.int 1), some (.int (N (12 + 1 * (4 + t))))]) dX0_termYielded_175 rfl (by decide) rfl rfl ?_
          refine aw_iinc (npc := 180) (v := nI (t + 1)) (L' := [some (.ref b), some (.int (nI f)), some (.int kd), some (.int 1), some (.int bo), some (.int 1), some (.int 1), some (.int (nI t)), some (.int (N (12 + 1 * (4 + t)))), some (.int (nI (t + 1))), some (.int 1), some (.int (N (12 + 1 * (4 + t))))]) dX0_termYielded_177 rfl rfl (nI_1 _) (by decide) rfl rfl ?_
          refine aw_goto (npc := 76) dX0_termYielded_180 (by decide) ?_
          refine ih (t + 1) (by omega) (nI t) (N (12 + 1 * (4 + t))) _ _ ?_
          have e9 : tyStp 1 1 4 N t (bs, bc) = (nI t, N (12 + 1 * (4 + t))) := by simp [tyStp, hc2, hc3, hc4, -Nat.one_mul, -Nat.zero_add]
          exact (congrArg (tyM 1 1 4 N m (t + 1)) e9) ▸ hq
set_option maxHeartbeats 4000000 in
set_option maxRecDepth 100000 in
theorem g_term {X : List Int32} {d rc rs n : Nat} {Q : am_Q} {b : Nat} {N : Nat → Int32} {tx : List Value} {lk mv : Nat → Int32} {h : am_H} {f : Nat} (F : QR b N tx lk mv h) (hf : f < 8) (hk : wi (N (22 + 5 * f)) 0 5) (hs : wi (N (23 + 5 * f)) 0 1) (hq : Q (some (.int (ty N f))) n h) : AW X mX0_termYielded (d + 3) rc rs 0 [some (.ref b), some (.int (nI f)), none, none, none, none, none, none, none, none, none, none] [] n h Q := by
  refine aw_aload_n (npc := 1) rfl dX0_termYielded_0 rfl ?_
  refine aw_get (npc := 4) dX0_termYielded_1 rfl kf_X0_43 F.1 rfl ?_
  refine aw_iload_n (npc := 5) rfl dX0_termYielded_4 rfl ?_
  refine aw_iald (npc := 6) (x := N (22 + 5 * f)) (j := f) dX0_termYielded_5 rfl F.2.2.2.2.1 (am_ix_nI (by omega)) (tl_at (by omega)) ?_
  rcases wi_c0_5 hk with ek | ek | ek | ek | ek | ek
  · refine aw_top (y := 0) ek ?_
    refine aw_istore_n (npc := 7) (L' := [some (.ref b), some (.int (nI f)), some (.int 0), none, none, none, none, none, none, none, none, none]) dX0_termYielded_6 rfl (by decide) rfl rfl ?_
    refine aw_aload_n (npc := 8) rfl dX0_termYielded_7 rfl ?_
    refine aw_get (npc := 11) dX0_termYielded_8 rfl kf_X0_46 F.1 rfl ?_
    refine aw_iload_n (npc := 12) rfl dX0_termYielded_11 rfl ?_
    refine aw_iald (npc := 13) (x := N (23 + 5 * f)) (j := f) dX0_termYielded_12 rfl F.2.2.2.2.2.1 (am_ix_nI (by omega)) (tl_at (by omega)) ?_
    rcases wi_c0_1 hs with es | es
    · refine aw_top (y := 0) es ?_
      refine aw_istore_n (npc := 14) (L' := [some (.ref b), some (.int (nI f)), some (.int 0), some (.int 0), none, none, none, none, none, none, none, none]) dX0_termYielded_13 rfl (by decide) rfl rfl ?_
      refine aw_iload_n (npc := 15) rfl dX0_termYielded_14 rfl ?_
      refine aw_iconst (npc := 16) (v := 1) (by decide) dX0_termYielded_15 rfl ?_
      refine aw_icmp_eq (npc := 19) (tgt := 29) dX0_termYielded_16 rfl (by decide) (fun hc => absurd hc (by decide)) (fun _ => ?_)
      refine aw_iload_n (npc := 20) rfl dX0_termYielded_19 rfl ?_
      refine aw_iconst (npc := 21) (v := 3) (by decide) dX0_termYielded_20 rfl ?_
      refine aw_icmp_eq (npc := 24) (tgt := 29) dX0_termYielded_21 rfl (by decide) (fun hc => absurd hc (by decide)) (fun _ => ?_)
      refine aw_iload_n (npc := 25) rfl dX0_termYielded_24 rfl ?_
      refine aw_iconst (npc := 26) (v := 4) (by decide) dX0_termYielded_25 rfl ?_
      refine aw_icmp_ne (npc := 29) (tgt := 33) dX0_termYielded_26 rfl (by decide) (fun _ => ?_) (fun hc => absurd hc (by decide))
      refine aw_iconst (npc := 34) (v := 0) (by decide) dX0_termYielded_33 rfl ?_
      refine aw_istore (npc := 36) (L' := [some (.ref b), some (.int (nI f)), some (.int 0), some (.int 0), some (.int 0), none, none, none, none, none, none, none]) dX0_termYielded_34 rfl (by decide) rfl rfl ?_
      refine aw_iload_n (npc := 37) rfl dX0_termYielded_36 rfl ?_
      refine aw_iconst (npc := 38) (v := 4) (by decide) dX0_termYielded_37 rfl ?_
      refine aw_icmp_eq (npc := 41) (tgt := 46) dX0_termYielded_38 rfl (by decide) (fun hc => absurd hc (by decide)) (fun _ => ?_)
      refine aw_iload_n (npc := 42) rfl dX0_termYielded_41 rfl ?_
      refine aw_iconst (npc := 43) (v := 5) (by decide) dX0_termYielded_42 rfl ?_
      refine aw_icmp_ne (npc := 46) (tgt := 50) dX0_termYielded_43 rfl (by decide) (fun _ => ?_) (fun hc => absurd hc (by decide))
      refine aw_iconst (npc := 51) (v := 0) (by decide) dX0_termYielded_50 rfl ?_
      refine aw_istore (npc := 53) (L' := [some (.ref b), some (.int (nI f)), some (.int 0), some (.int 0), some (.int 0), some (.int 0), none, none, none, none, none, none]) dX0_termYielded_51 rfl (by decide) rfl rfl ?_
      refine aw_iload (npc := 55) rfl dX0_termYielded_53 rfl ?_
      refine aw_if_eq (npc := 58) (tgt := 64) dX0_termYielded_55 rfl (by decide) (fun _ => ?_) (fun hc => absurd (by decide) hc)
      refine aw_iload_n (npc := 65) rfl dX0_termYielded_64 rfl ?_
      refine aw_istore (npc := 67) (L' := [some (.ref b), some (.int (nI f)), some (.int 0), some (.int 0), some (.int 0), some (.int 0), some (.int 0), none, none, none, none, none]) dX0_termYielded_65 rfl (by decide) rfl rfl ?_
      refine aw_iconst (npc := 68) (v := -1) (by decide) dX0_termYielded_67 rfl ?_
      refine aw_istore (npc := 70) (L' := [some (.ref b), some (.int (nI f)), some (.int 0), some (.int 0), some (.int 0), some (.int 0), some (.int 0), some (.int (-1)), none, none, none, none]) dX0_termYielded_68 rfl (by decide) rfl rfl ?_
      refine aw_iconst (npc := 71) (v := 0) (by decide) dX0_termYielded_70 rfl ?_
      refine aw_istore (npc := 73) (L' := [some (.ref b), some (.int (nI f)), some (.int 0), some (.int 0), some (.int 0), some (.int 0), some (.int 0), some (.int (-1)), some (.int 0), none, none, none]) dX0_termYielded_71 rfl (by decide) rfl rfl ?_
      refine aw_iconst (npc := 74) (v := 0) (by decide) dX0_termYielded_73 rfl ?_
      refine aw_istore (npc := 76) (L' := [some (.ref b), some (.int (nI f)), some (.int 0), some (.int 0), some (.int 0), some (.int 0), some (.int 0), some (.int (-1)), some (.int 0), some (.int 0), none, none]) dX0_termYielded_74 rfl (by decide) rfl rfl ?_
      refine aw_locs (L' := [some (.ref b), some (.int (nI f)), some (.int 0), some (.int 0), some (.int 0), some (.int 0), some (.int 0), some (.int (-1)), some (.int 0), some (.int (nI 0)), none, none]) rfl ?_
      refine g_tyL000 F 4 0 (by omega) (-1) 0 none none ?_
      exact (show ty N f = (tyM 0 0 0 N 4 0 (-1, 0)).1 by simp [ty, tyK, ek, es]) ▸ hq
    · refine aw_top (y := 1) es ?_
      refine aw_istore_n (npc := 14) (L' := [some (.ref b), some (.int (nI f)), some (.int 0), some (.int 1), none, none, none, none, none, none, none, none]) dX0_termYielded_13 rfl (by decide) rfl rfl ?_
      refine aw_iload_n (npc := 15) rfl dX0_termYielded_14 rfl ?_
      refine aw_iconst (npc := 16) (v := 1) (by decide) dX0_termYielded_15 rfl ?_
      refine aw_icmp_eq (npc := 19) (tgt := 29) dX0_termYielded_16 rfl (by decide) (fun hc => absurd hc (by decide)) (fun _ => ?_)
      refine aw_iload_n (npc := 20) rfl dX0_termYielded_19 rfl ?_
      refine aw_iconst (npc := 21) (v := 3) (by decide) dX0_termYielded_20 rfl ?_
      refine aw_icmp_eq (npc := 24) (tgt := 29) dX0_termYielded_21 rfl (by decide) (fun hc => absurd hc (by decide)) (fun _ => ?_)
      refine aw_iload_n (npc := 25) rfl dX0_termYielded_24 rfl ?_
      refine aw_iconst (npc := 26) (v := 4) (by decide) dX0_termYielded_25 rfl ?_
      refine aw_icmp_ne (npc := 29) (tgt := 33) dX0_termYielded_26 rfl (by decide) (fun _ => ?_) (fun hc => absurd hc (by decide))
      refine aw_iconst (npc := 34) (v := 0) (by decide) dX0_termYielded_33 rfl ?_
      refine aw_istore (npc := 36) (L' := [some (.ref b), some (.int (nI f)), some (.int 0), some (.int 1), some (.int 0), none, none, none, none, none, none, none]) dX0_termYielded_34 rfl (by decide) rfl rfl ?_
      refine aw_iload_n (npc := 37) rfl dX0_termYielded_36 rfl ?_
      refine aw_iconst (npc := 38) (v := 4) (by decide) dX0_termYielded_37 rfl ?_
      refine aw_icmp_eq (npc := 41) (tgt := 46) dX0_termYielded_38 rfl (by decide) (fun hc => absurd hc (by decide)) (fun _ => ?_)
      refine aw_iload_n (npc := 42) rfl dX0_termYielded_41 rfl ?_
      refine aw_iconst (npc := 43) (v := 5) (by decide) dX0_termYielded_42 rfl ?_
      refine aw_icmp_ne (npc := 46) (tgt := 50) dX0_termYielded_43 rfl (by decide) (fun _ => ?_) (fun hc => absurd hc (by decide))
      refine aw_iconst (npc := 51) (v := 0) (by decide) dX0_termYielded_50 rfl ?_
      refine aw_istore (npc := 53) (L' := [some (.ref b), some (.int (nI f)), some (.int 0), some (.int 1), some (.int 0), some (.int 0), none, none, none, none, none, none]) dX0_termYielded_51 rfl (by decide) rfl rfl ?_
      refine aw_iload (npc := 55) rfl dX0_termYielded_53 rfl ?_
      refine aw_if_eq (npc := 58) (tgt := 64) dX0_termYielded_55 rfl (by decide) (fun _ => ?_) (fun hc => absurd (by decide) hc)
      refine aw_iload_n (npc := 65) rfl dX0_termYielded_64 rfl ?_
      refine aw_istore (npc := 67) (L' := [some (.ref b), some (.int (nI f)), some (.int 0), some (.int 1), some (.int 0), some (.int 0), some (.int 1), none, none, none, none, none]) dX0_termYielded_65 rfl (by decide) rfl rfl ?_
      refine aw_iconst (npc := 68) (v := -1) (by decide) dX0_termYielded_67 rfl ?_
      refine aw_istore (npc := 70) (L' := [some (.ref b), some (.int (nI f)), some (.int 0), some (.int 1), some (.int 0), some (.int 0), some (.int 1), some (.int (-1)), none, none, none, none]) dX0_termYielded_68 rfl (by decide) rfl rfl ?_
      refine aw_iconst (npc := 71) (v := 0) (by decide) dX0_termYielded_70 rfl ?_
      refine aw_istore (npc := 73) (L' := [some (.ref b), some (.int (nI f)), some (.int 0), some (.int 1), some (.int 0), some (.int 0), some (.int 1), some (.int (-1)), some (.int 0), none, none, none]) dX0_termYielded_71 rfl (by decide) rfl rfl ?_
      refine aw_iconst (npc := 74) (v := 0) (by decide) dX0_termYielded_73 rfl ?_
      refine aw_istore (npc := 76) (L' := [some (.ref b), some (.int (nI f)), some (.int 0), some (.int 1), some (.int 0), some (.int 0), some (.int 1), some (.int (-1)), some (.int 0), some (.int 0), none, none]) dX0_termYielded_74 rfl (by decide) rfl rfl ?_
      refine aw_locs (L' := [some (.ref b), some (.int (nI f)), some (.int 0), some (.int 1), some (.int 0), some (.int 0), some (.int 1), some (.int (-1)), some (.int 0), some (.int (nI 0)), none, none]) rfl ?_
      refine g_tyL101 F 4 0 (by omega) (-1) 0 none none ?_
      exact (show ty N f = (tyM 1 0 4 N 4 0 (-1, 0)).1 by simp [ty, tyK, ek, es]) ▸ hq
  · refine aw_top (y := 1) ek ?_
    refine aw_istore_n (npc := 7) (L' := [some (.ref b), some (.int (nI f)), some (.int 1), none, none, none, none, none, none, none, none, none]) dX0_termYielded_6 rfl (by decide) rfl rfl ?_
    refine aw_aload_n (npc := 8) rfl dX0_termYielded_7 rfl ?_
    refine aw_get (npc := 11) dX0_termYielded_8 rfl kf_X0_46 F.1 rfl ?_
    refine aw_iload_n (npc := 12) rfl dX0_termYielded_11 rfl ?_
    refine aw_iald (npc := 13) (x := N (23 + 5 * f)) (j := f) dX0_termYielded_12 rfl F.2.2.2.2.2.1 (am_ix_nI (by omega)) (tl_at (by omega)) ?_
    rcases wi_c0_1 hs with es | es
    · refine aw_top (y := 0) es ?_
      refine aw_istore_n (npc := 14) (L' := [some (.ref b), some (.int (nI f)), some (.int 1), some (.int 0), none, none, none, none, none, none, none, none]) dX0_termYielded_13 rfl (by decide) rfl rfl ?_
      refine aw_iload_n (npc := 15) rfl dX0_termYielded_14 rfl ?_
      refine aw_iconst (npc := 16) (v := 1) (by decide) dX0_termYielded_15 rfl ?_
      refine aw_icmp_eq (npc := 19) (tgt := 29) dX0_termYielded_16 rfl (by decide) (fun _ => ?_) (fun hc => absurd (by decide) hc)
      refine aw_iconst (npc := 30) (v := 1) (by decide) dX0_termYielded_29 rfl ?_
      refine aw_goto (npc := 34) dX0_termYielded_30 (by decide) ?_
      refine aw_istore (npc := 36) (L' := [some (.ref b), some (.int (nI f)), some (.int 1), some (.int 0), some (.int 1), none, none, none, none, none, none, none]) dX0_termYielded_34 rfl (by decide) rfl rfl ?_
      refine aw_iload_n (npc := 37) rfl dX0_termYielded_36 rfl ?_
      refine aw_iconst (npc := 38) (v := 4) (by decide) dX0_termYielded_37 rfl ?_
      refine aw_icmp_eq (npc := 41) (tgt := 46) dX0_termYielded_38 rfl (by decide) (fun hc => absurd hc (by decide)) (fun _ => ?_)
      refine aw_iload_n (npc := 42) rfl dX0_termYielded_41 rfl ?_
      refine aw_iconst (npc := 43) (v := 5) (by decide) dX0_termYielded_42 rfl ?_
      refine aw_icmp_ne (npc := 46) (tgt := 50) dX0_termYielded_43 rfl (by decide) (fun _ => ?_) (fun hc => absurd hc (by decide))
      refine aw_iconst (npc := 51) (v := 0) (by decide) dX0_termYielded_50 rfl ?_
      refine aw_istore (npc := 53) (L' := [some (.ref b), some (.int (nI f)), some (.int 1), some (.int 0), some (.int 1), some (.int 0), none, none, none, none, none, none]) dX0_termYielded_51 rfl (by decide) rfl rfl ?_
      refine aw_iload (npc := 55) rfl dX0_termYielded_53 rfl ?_
      refine aw_if_eq (npc := 58) (tgt := 64) dX0_termYielded_55 rfl (by decide) (fun hc => absurd hc (by decide)) (fun _ => ?_)
      refine aw_iconst (npc := 59) (v := 1) (by decide) dX0_termYielded_58 rfl ?_
      refine aw_iload_n (npc := 60) rfl dX0_termYielded_59 rfl ?_
      refine aw_isubV (npc := 61) (v := 1) dX0_termYielded_60 rfl (by decide) ?_
      refine aw_goto (npc := 65) dX0_termYielded_61 (by decide) ?_
      refine aw_istore (npc := 67) (L' := [some (.ref b), some (.int (nI f)), some (.int 1), some (.int 0), some (.int 1), some (.int 0), some (.int 1), none, none, none, none, none]) dX0_termYielded_65 rfl (by decide) rfl rfl ?_
      refine aw_iconst (npc := 68) (v := -1) (by decide) dX0_termYielded_67 rfl ?_
      refine aw_istore (npc := 70) (L' := [some (.ref b), some (.int (nI f)), some (.int 1), some (.int 0), some (.int 1), some (.int 0), some (.int 1), some (.int (-1)), none, none, none, none]) dX0_termYielded_68 rfl (by decide) rfl rfl ?_
      refine aw_iconst (npc := 71) (v := 0) (by decide) dX0_termYielded_70 rfl ?_
      refine aw_istore (npc := 73) (L' := [some (.ref b), some (.int (nI f)), some (.int 1), some (.int 0), some (.int 1), some (.int 0), some (.int 1), some (.int (-1)), some (.int 0), none, none, none]) dX0_termYielded_71 rfl (by decide) rfl rfl ?_
      refine aw_iconst (npc := 74) (v := 0) (by decide) dX0_termYielded_73 rfl ?_
      refine aw_istore (npc := 76) (L' := [some (.ref b), some (.int (nI f)), some (.int 1), some (.int 0), some (.int 1), some (.int 0), some (.int 1), some (.int (-1)), some (.int 0), some (.int 0), none, none]) dX0_termYielded_74 rfl (by decide) rfl rfl ?_
      refine aw_locs (L' := [some (.ref b), some (.int (nI f)), some (.int 1), some (.int 0), some (.int 1), some (.int 0), some (.int 1), some (.int (-1)), some (.int 0), some (.int (nI 0)), none, none]) rfl ?_
      refine g_tyL001 F 4 0 (by omega) (-1) 0 none none ?_
      exact (show ty N f = (tyM 0 0 4 N 4 0 (-1, 0)).1 by simp [ty, tyK, ek, es]) ▸ hq
    · refine aw_top (y := 1) es ?_
      refine aw_istore_n (npc := 14) (L' := [some (.ref b), some (.int (nI f)), some (.int 1), some (.int 1), none, none, none, none, none, none, none, none]) dX0_termYielded_13 rfl (by decide) rfl rfl ?_
      refine aw_iload_n (npc := 15) rfl dX0_termYielded_14 rfl ?_
      refine aw_iconst (npc := 16) (v := 1) (by decide) dX0_termYielded_15 rfl ?_
      refine aw_icmp_eq (npc := 19) (tgt := 29) dX0_termYielded_16 rfl (by decide) (fun _ => ?_) (fun hc => absurd (by decide) hc)
      refine aw_iconst (npc := 30) (v := 1) (by decide) dX0_termYielded_29 rfl ?_
      refine aw_goto (npc := 34) dX0_termYielded_30 (by decide) ?_
      refine aw_istore (npc := 36) (L' := [some (.ref b), some (.int (nI f)), some (.int 1), some (.int 1), some (.int 1), none, none, none, none, none, none, none]) dX0_termYielded_34 rfl (by decide) rfl rfl ?_
      refine aw_iload_n (npc := 37) rfl dX0_termYielded_36 rfl ?_
      refine aw_iconst (npc := 38) (v := 4) (by decide) dX0_termYielded_37 rfl ?_
      refine aw_icmp_eq (npc := 41) (tgt := 46) dX0_termYielded_38 rfl (by decide) (fun hc => absurd hc (by decide)) (fun _ => ?_)
      refine aw_iload_n (npc := 42) rfl dX0_termYielded_41 rfl ?_
      refine aw_iconst (npc := 43) (v := 5) (by decide) dX0_termYielded_42 rfl ?_
      refine aw_icmp_ne (npc := 46) (tgt := 50) dX0_termYielded_43 rfl (by decide) (fun _ => ?_) (fun hc => absurd hc (by decide))
      refine aw_iconst (npc := 51) (v := 0) (by decide) dX0_termYielded_50 rfl ?_
      refine aw_istore (npc := 53) (L' := [some (.ref b), some (.int (nI f)), some (.int 1), some (.int 1), some (.int 1), some (.int 0), none, none, none, none, none, none]) dX0_termYielded_51 rfl (by decide) rfl rfl ?_
      refine aw_iload (npc := 55) rfl dX0_termYielded_53 rfl ?_
      refine aw_if_eq (npc := 58) (tgt := 64) dX0_termYielded_55 rfl (by decide) (fun hc => absurd hc (by decide)) (fun _ => ?_)
      refine aw_iconst (npc := 59) (v := 1) (by decide) dX0_termYielded_58 rfl ?_
      refine aw_iload_n (npc := 60) rfl dX0_termYielded_59 rfl ?_
      refine aw_isubV (npc := 61) (v := 0) dX0_termYielded_60 rfl (by decide) ?_
      refine aw_goto (npc := 65) dX0_termYielded_61 (by decide) ?_
      refine aw_istore (npc := 67) (L' := [some (.ref b), some (.int (nI f)), some (.int 1), some (.int 1), some (.int 1), some (.int 0), some (.int 0), none, none, none, none, none]) dX0_termYielded_65 rfl (by decide) rfl rfl ?_
      refine aw_iconst (npc := 68) (v := -1) (by decide) dX0_termYielded_67 rfl ?_
      refine aw_istore (npc := 70) (L' := [some (.ref b), some (.int (nI f)), some (.int 1), some (.int 1), some (.int 1), some (.int 0), some (.int 0), some (.int (-1)), none, none, none, none]) dX0_termYielded_68 rfl (by decide) rfl rfl ?_
      refine aw_iconst (npc := 71) (v := 0) (by decide) dX0_termYielded_70 rfl ?_
      refine aw_istore (npc := 73) (L' := [some (.ref b), some (.int (nI f)), some (.int 1), some (.int 1), some (.int 1), some (.int 0), some (.int 0), some (.int (-1)), some (.int 0), none, none, none]) dX0_termYielded_71 rfl (by decide) rfl rfl ?_
      refine aw_iconst (npc := 74) (v := 0) (by decide) dX0_termYielded_73 rfl ?_
      refine aw_istore (npc := 76) (L' := [some (.ref b), some (.int (nI f)), some (.int 1), some (.int 1), some (.int 1), some (.int 0), some (.int 0), some (.int (-1)), some (.int 0), some (.int 0), none, none]) dX0_termYielded_74 rfl (by decide) rfl rfl ?_
      refine aw_locs (L' := [some (.ref b), some (.int (nI f)), some (.int 1), some (.int 1), some (.int 1), some (.int 0), some (.int 0), some (.int (-1)), some (.int 0), some (.int (nI 0)), none, none]) rfl ?_
      refine g_tyL100 F 4 0 (by omega) (-1) 0 none none ?_
      exact (show ty N f = (tyM 1 0 0 N 4 0 (-1, 0)).1 by simp [ty, tyK, ek, es]) ▸ hq
  · refine aw_top (y := 2) ek ?_
    refine aw_istore_n (npc := 7) (L' := [some (.ref b), some (.int (nI f)), some (.int 2), none, none, none, none, none, none, none, none, none]) dX0_termYielded_6 rfl (by decide) rfl rfl ?_
    refine aw_aload_n (npc := 8) rfl dX0_termYielded_7 rfl ?_
    refine aw_get (npc := 11) dX0_termYielded_8 rfl kf_X0_46 F.1 rfl ?_
    refine aw_iload_n (npc := 12) rfl dX0_termYielded_11 rfl ?_
    refine aw_iald (npc := 13) (x := N (23 + 5 * f)) (j := f) dX0_termYielded_12 rfl F.2.2.2.2.2.1 (am_ix_nI (by omega)) (tl_at (by omega)) ?_
    rcases wi_c0_1 hs with es | es
    · refine aw_top (y := 0) es ?_
      refine aw_istore_n (npc := 14) (L' := [some (.ref b), some (.int (nI f)), some (.int 2), some (.int 0), none, none, none, none, none, none, none, none]) dX0_termYielded_13 rfl (by decide) rfl rfl ?_
      refine aw_iload_n (npc := 15) rfl dX0_termYielded_14 rfl ?_
      refine aw_iconst (npc := 16) (v := 1) (by decide) dX0_termYielded_15 rfl ?_
      refine aw_icmp_eq (npc := 19) (tgt := 29) dX0_termYielded_16 rfl (by decide) (fun hc => absurd hc (by decide)) (fun _ => ?_)
      refine aw_iload_n (npc := 20) rfl dX0_termYielded_19 rfl ?_
      refine aw_iconst (npc := 21) (v := 3) (by decide) dX0_termYielded_20 rfl ?_
      refine aw_icmp_eq (npc := 24) (tgt := 29) dX0_termYielded_21 rfl (by decide) (fun hc => absurd hc (by decide)) (fun _ => ?_)
      refine aw_iload_n (npc := 25) rfl dX0_termYielded_24 rfl ?_
      refine aw_iconst (npc := 26) (v := 4) (by decide) dX0_termYielded_25 rfl ?_
      refine aw_icmp_ne (npc := 29) (tgt := 33) dX0_termYielded_26 rfl (by decide) (fun _ => ?_) (fun hc => absurd hc (by decide))
      refine aw_iconst (npc := 34) (v := 0) (by decide) dX0_termYielded_33 rfl ?_
      refine aw_istore (npc := 36) (L' := [some (.ref b), some (.int (nI f)), some (.int 2), some (.int 0), some (.int 0), none, none, none, none, none, none, none]) dX0_termYielded_34 rfl (by decide) rfl rfl ?_
      refine aw_iload_n (npc := 37) rfl dX0_termYielded_36 rfl ?_
      refine aw_iconst (npc := 38) (v := 4) (by decide) dX0_termYielded_37 rfl ?_
      refine aw_icmp_eq (npc := 41) (tgt := 46) dX0_termYielded_38 rfl (by decide) (fun hc => absurd hc (by decide)) (fun _ => ?_)
      refine aw_iload_n (npc := 42) rfl dX0_termYielded_41 rfl ?_
      refine aw_iconst (npc := 43) (v := 5) (by decide) dX0_termYielded_42 rfl ?_
      refine aw_icmp_ne (npc := 46) (tgt := 50) dX0_termYielded_43 rfl (by decide) (fun _ => ?_) (fun hc => absurd hc (by decide))
      refine aw_iconst (npc := 51) (v := 0) (by decide) dX0_termYielded_50 rfl ?_
      refine aw_istore (npc := 53) (L' := [some (.ref b), some (.int (nI f)), some (.int 2), some (.int 0), some (.int 0), some (.int 0), none, none, none, none, none, none]) dX0_termYielded_51 rfl (by decide) rfl rfl ?_
      refine aw_iload (npc := 55) rfl dX0_termYielded_53 rfl ?_
      refine aw_if_eq (npc := 58) (tgt := 64) dX0_termYielded_55 rfl (by decide) (fun _ => ?_) (fun hc => absurd (by decide) hc)
      refine aw_iload_n (npc := 65) rfl dX0_termYielded_64 rfl ?_
      refine aw_istore (npc := 67) (L' := [some (.ref b), some (.int (nI f)), some (.int 2), some (.int 0), some (.int 0), some (.int 0), some (.int 0), none, none, none, none, none]) dX0_termYielded_65 rfl (by decide) rfl rfl ?_
      refine aw_iconst (npc := 68) (v := -1) (by decide) dX0_termYielded_67 rfl ?_
      refine aw_istore (npc := 70) (L' := [some (.ref b), some (.int (nI f)), some (.int 2), some (.int 0), some (.int 0), some (.int 0), some (.int 0), some (.int (-1)), none, none, none, none]) dX0_termYielded_68 rfl (by decide) rfl rfl ?_
      refine aw_iconst (npc := 71) (v := 0) (by decide) dX0_termYielded_70 rfl ?_
      refine aw_istore (npc := 73) (L' := [some (.ref b), some (.int (nI f)), some (.int 2), some (.int 0), some (.int 0), some (.int 0), some (.int 0), some (.int (-1)), some (.int 0), none, none, none]) dX0_termYielded_71 rfl (by decide) rfl rfl ?_
      refine aw_iconst (npc := 74) (v := 0) (by decide) dX0_termYielded_73 rfl ?_
      refine aw_istore (npc := 76) (L' := [some (.ref b), some (.int (nI f)), some (.int 2), some (.int 0), some (.int 0), some (.int 0), some (.int 0), some (.int (-1)), some (.int 0), some (.int 0), none, none]) dX0_termYielded_74 rfl (by decide) rfl rfl ?_
      refine aw_locs (L' := [some (.ref b), some (.int (nI f)), some (.int 2), some (.int 0), some (.int 0), some (.int 0), some (.int 0), some (.int (-1)), some (.int 0), some (.int (nI 0)), none, none]) rfl ?_
      refine g_tyL000 F 4 0 (by omega) (-1) 0 none none ?_
      exact (show ty N f = (tyM 0 0 0 N 4 0 (-1, 0)).1 by simp [ty, tyK, ek, es]) ▸ hq
    · refine aw_top (y := 1) es ?_
      refine aw_istore_n (npc := 14) (L' := [some (.ref b), some (.int (nI f)), some (.int 2), some (.int 1), none, none, none, none, none, none, none, none]) dX0_termYielded_13 rfl (by decide) rfl rfl ?_
      refine aw_iload_n (npc := 15) rfl dX0_termYielded_14 rfl ?_
      refine aw_iconst (npc := 16) (v := 1) (by decide) dX0_termYielded_15 rfl ?_
      refine aw_icmp_eq (npc := 19) (tgt := 29) dX0_termYielded_16 rfl (by decide) (fun hc => absurd hc (by decide)) (fun _ => ?_)
      refine aw_iload_n (npc := 20) rfl dX0_termYielded_19 rfl ?_
      refine aw_iconst (npc := 21) (v := 3) (by decide) dX0_termYielded_20 rfl ?_
      refine aw_icmp_eq (npc := 24) (tgt := 29) dX0_termYielded_21 rfl (by decide) (fun hc => absurd hc (by decide)) (fun _ => ?_)
      refine aw_iload_n (npc := 25) rfl dX0_termYielded_24 rfl ?_
      refine aw_iconst (npc := 26) (v := 4) (by decide) dX0_termYielded_25 rfl ?_
      refine aw_icmp_ne (npc := 29) (tgt := 33) dX0_termYielded_26 rfl (by decide) (fun _ => ?_) (fun hc => absurd hc (by decide))
      refine aw_iconst (npc := 34) (v := 0) (by decide) dX0_termYielded_33 rfl ?_
      refine aw_istore (npc := 36) (L' := [some (.ref b), some (.int (nI f)), some (.int 2), some (.int 1), some (.int 0), none, none, none, none, none, none, none]) dX0_termYielded_34 rfl (by decide) rfl rfl ?_
      refine aw_iload_n (npc := 37) rfl dX0_termYielded_36 rfl ?_
      refine aw_iconst (npc := 38) (v := 4) (by decide) dX0_termYielded_37 rfl ?_
      refine aw_icmp_eq (npc := 41) (tgt := 46) dX0_termYielded_38 rfl (by decide) (fun hc => absurd hc (by decide)) (fun _ => ?_)
      refine aw_iload_n (npc := 42) rfl dX0_termYielded_41 rfl ?_
      refine aw_iconst (npc := 43) (v := 5) (by decide) dX0_termYielded_42 rfl ?_
      refine aw_icmp_ne (npc := 46) (tgt := 50) dX0_termYielded_43 rfl (by decide) (fun _ => ?_) (fun hc => absurd hc (by decide))
      refine aw_iconst (npc := 51) (v := 0) (by decide) dX0_termYielded_50 rfl ?_
      refine aw_istore (npc := 53) (L' := [some (.ref b), some (.int (nI f)), some (.int 2), some (.int 1), some (.int 0), some (.int 0), none, none, none, none, none, none]) dX0_termYielded_51 rfl (by decide) rfl rfl ?_
      refine aw_iload (npc := 55) rfl dX0_termYielded_53 rfl ?_
      refine aw_if_eq (npc := 58) (tgt := 64) dX0_termYielded_55 rfl (by decide) (fun _ => ?_) (fun hc => absurd (by decide) hc)
      refine aw_iload_n (npc := 65) rfl dX0_termYielded_64 rfl ?_
      refine aw_istore (npc := 67) (L' := [some (.ref b), some (.int (nI f)), some (.int 2), some (.int 1), some (.int 0), some (.int 0), some (.int 1), none, none, none, none, none]) dX0_termYielded_65 rfl (by decide) rfl rfl ?_
      refine aw_iconst (npc := 68) (v := -1) (by decide) dX0_termYielded_67 rfl ?_
      refine aw_istore (npc := 70) (L' := [some (.ref b), some (.int (nI f)), some (.int 2), some (.int 1), some (.int 0), some (.int 0), some (.int 1), some (.int (-1)), none, none, none, none]) dX0_termYielded_68 rfl (by decide) rfl rfl ?_
      refine aw_iconst (npc := 71) (v := 0) (by decide) dX0_termYielded_70 rfl ?_
      refine aw_istore (npc := 73) (L' := [some (.ref b), some (.int (nI f)), some (.int 2), some (.int 1), some (.int 0), some (.int 0), some (.int 1), some (.int (-1)), some (.int 0), none, none, none]) dX0_termYielded_71 rfl (by decide) rfl rfl ?_
      refine aw_iconst (npc := 74) (v := 0) (by decide) dX0_termYielded_73 rfl ?_
      refine aw_istore (npc := 76) (L' := [some (.ref b), some (.int (nI f)), some (.int 2), some (.int 1), some (.int 0), some (.int 0), some (.int 1), some (.int (-1)), some (.int 0), some (.int 0), none, none]) dX0_termYielded_74 rfl (by decide) rfl rfl ?_
      refine aw_locs (L' := [some (.ref b), some (.int (nI f)), some (.int 2), some (.int 1), some (.int 0), some (.int 0), some (.int 1), some (.int (-1)), some (.int 0), some (.int (nI 0)), none, none]) rfl ?_
      refine g_tyL101 F 4 0 (by omega) (-1) 0 none none ?_
      exact (show ty N f = (tyM 1 0 4 N 4 0 (-1, 0)).1 by simp [ty, tyK, ek, es]) ▸ hq
  · refine aw_top (y := 3) ek ?_
    refine aw_istore_n (npc := 7) (L' := [some (.ref b), some (.int (nI f)), some (.int 3), none, none, none, none, none, none, none, none, none]) dX0_termYielded_6 rfl (by decide) rfl rfl ?_
    refine aw_aload_n (npc := 8) rfl dX0_termYielded_7 rfl ?_
    refine aw_get (npc := 11) dX0_termYielded_8 rfl kf_X0_46 F.1 rfl ?_
    refine aw_iload_n (npc := 12) rfl dX0_termYielded_11 rfl ?_
    refine aw_iald (npc := 13) (x := N (23 + 5 * f)) (j := f) dX0_termYielded_12 rfl F.2.2.2.2.2.1 (am_ix_nI (by omega)) (tl_at (by omega)) ?_
    rcases wi_c0_1 hs with es | es
    · refine aw_top (y := 0) es ?_
      refine aw_istore_n (npc := 14) (L' := [some (.ref b), some (.int (nI f)), some (.int 3), some (.int 0), none, none, none, none, none, none, none, none]) dX0_termYielded_13 rfl (by decide) rfl rfl ?_
      refine aw_iload_n (npc := 15) rfl dX0_termYielded_14 rfl ?_
      refine aw_iconst (npc := 16) (v := 1) (by decide) dX0_termYielded_15 rfl ?_
      refine aw_icmp_eq (npc := 19) (tgt := 29) dX0_termYielded_16 rfl (by decide) (fun hc => absurd hc (by decide)) (fun _ => ?_)
      refine aw_iload_n (npc := 20) rfl dX0_termYielded_19 rfl ?_
      refine aw_iconst (npc := 21) (v := 3) (by decide) dX0_termYielded_20 rfl ?_
      refine aw_icmp_eq (npc := 24) (tgt := 29) dX0_termYielded_21 rfl (by decide) (fun _ => ?_) (fun hc => absurd (by decide) hc)
      refine aw_iconst (npc := 30) (v := 1) (by decide) dX0_termYielded_29 rfl ?_
      refine aw_goto (npc := 34) dX0_termYielded_30 (by decide) ?_
      refine aw_istore (npc := 36) (L' := [some (.ref b), some (.int (nI f)), some (.int 3), some (.int 0), some (.int 1), none, none, none, none, none, none, none]) dX0_termYielded_34 rfl (by decide) rfl rfl ?_
      refine aw_iload_n (npc := 37) rfl dX0_termYielded_36 rfl ?_
      refine aw_iconst (npc := 38) (v := 4) (by decide) dX0_termYielded_37 rfl ?_
      refine aw_icmp_eq (npc := 41) (tgt := 46) dX0_termYielded_38 rfl (by decide) (fun hc => absurd hc (by decide)) (fun _ => ?_)
      refine aw_iload_n (npc := 42) rfl dX0_termYielded_41 rfl ?_
      refine aw_iconst (npc := 43) (v := 5) (by decide) dX0_termYielded_42 rfl ?_
      refine aw_icmp_ne (npc := 46) (tgt := 50) dX0_termYielded_43 rfl (by decide) (fun _ => ?_) (fun hc => absurd hc (by decide))
      refine aw_iconst (npc := 51) (v := 0) (by decide) dX0_termYielded_50 rfl ?_
      refine aw_istore (npc := 53) (L' := [some (.ref b), some (.int (nI f)), some (.int 3), some (.int 0), some (.int 1), some (.int 0), none, none, none, none, none, none]) dX0_termYielded_51 rfl (by decide) rfl rfl ?_
      refine aw_iload (npc := 55) rfl dX0_termYielded_53 rfl ?_
      refine aw_if_eq (npc := 58) (tgt := 64) dX0_termYielded_55 rfl (by decide) (fun hc => absurd hc (by decide)) (fun _ => ?_)
      refine aw_iconst (npc := 59) (v := 1) (by decide) dX0_termYielded_58 rfl ?_
      refine aw_iload_n (npc := 60) rfl dX0_termYielded_59 rfl ?_
      refine aw_isubV (npc := 61) (v := 1) dX0_termYielded_60 rfl (by decide) ?_
      refine aw_goto (npc := 65) dX0_termYielded_61 (by decide) ?_
      refine aw_istore (npc := 67) (L' := [some (.ref b), some (.int (nI f)), some (.int 3), some (.int 0), some (.int 1), some (.int 0), some (.int 1), none, none, none, none, none]) dX0_termYielded_65 rfl (by decide) rfl rfl ?_
      refine aw_iconst (npc := 68) (v := -1) (by decide) dX0_termYielded_67 rfl ?_
      refine aw_istore (npc := 70) (L' := [some (.ref b), some (.int (nI f)), some (.int 3), some (.int 0), some (.int 1), some (.int 0), some (.int 1), some (.int (-1)), none, none, none, none]) dX0_termYielded_68 rfl (by decide) rfl rfl ?_
      refine aw_iconst (npc := 71) (v := 0) (by decide) dX0_termYielded_70 rfl ?_
      refine aw_istore (npc := 73) (L' := [some (.ref b), some (.int (nI f)), some (.int 3), some (.int 0), some (.int 1), some (.int 0), some (.int 1), some (.int (-1)), some (.int 0), none, none, none]) dX0_termYielded_71 rfl (by decide) rfl rfl ?_
      refine aw_iconst (npc := 74) (v := 0) (by decide) dX0_termYielded_73 rfl ?_
      refine aw_istore (npc := 76) (L' := [some (.ref b), some (.int (nI f)), some (.int 3), some (.int 0), some (.int 1), some (.int 0), some (.int 1), some (.int (-1)), some (.int 0), some (.int 0), none, none]) dX0_termYielded_74 rfl (by decide) rfl rfl ?_
      refine aw_locs (L' := [some (.ref b), some (.int (nI f)), some (.int 3), some (.int 0), some (.int 1), some (.int 0), some (.int 1), some (.int (-1)), some (.int 0), some (.int (nI 0)), none, none]) rfl ?_
      refine g_tyL001 F 4 0 (by omega) (-1) 0 none none ?_
      exact (show ty N f = (tyM 0 0 4 N 4 0 (-1, 0)).1 by simp [ty, tyK, ek, es]) ▸ hq
    · refine aw_top (y := 1) es ?_
      refine aw_istore_n (npc := 14) (L' := [some (.ref b), some (.int (nI f)), some (.int 3), some (.int 1), none, none, none, none, none, none, none, none]) dX0_termYielded_13 rfl (by decide) rfl rfl ?_
      refine aw_iload_n (npc := 15) rfl dX0_termYielded_14 rfl ?_
      refine aw_iconst (npc := 16) (v := 1) (by decide) dX0_termYielded_15 rfl ?_
      refine aw_icmp_eq (npc := 19) (tgt := 29) dX0_termYielded_16 rfl (by decide) (fun hc => absurd hc (by decide)) (fun _ => ?_)
      refine aw_iload_n (npc := 20) rfl dX0_termYielded_19 rfl ?_
      refine aw_iconst (npc := 21) (v := 3) (by decide) dX0_termYielded_20 rfl ?_
      refine aw_icmp_eq (npc := 24) (tgt := 29) dX0_termYielded_21 rfl (by decide) (fun _ => ?_) (fun hc => absurd (by decide) hc)
      refine aw_iconst (npc := 30) (v := 1) (by decide) dX0_termYielded_29 rfl ?_
      refine aw_goto (npc := 34) dX0_termYielded_30 (by decide) ?_
      refine aw_istore (npc := 36) (L' := [some (.ref b), some (.int (nI f)), some (.int 3), some (.int 1), some (.int 1), none, none, none, none, none, none, none]) dX0_termYielded_34 rfl (by decide) rfl rfl ?_
      refine aw_iload_n (npc := 37) rfl dX0_termYielded_36 rfl ?_
      refine aw_iconst (npc := 38) (v := 4) (by decide) dX0_termYielded_37 rfl ?_
      refine aw_icmp_eq (npc := 41) (tgt := 46) dX0_termYielded_38 rfl (by decide) (fun hc => absurd hc (by decide)) (fun _ => ?_)
      refine aw_iload_n (npc := 42) rfl dX0_termYielded_41 rfl ?_
      refine aw_iconst (npc := 43) (v := 5) (by decide) dX0_termYielded_42 rfl ?_
      refine aw_icmp_ne (npc := 46) (tgt := 50) dX0_termYielded_43 rfl (by decide) (fun _ => ?_) (fun hc => absurd hc (by decide))
      refine aw_iconst (npc := 51) (v := 0) (by decide) dX0_termYielded_50 rfl ?_
      refine aw_istore (npc := 53) (L' := [some (.ref b), some (.int (nI f)), some (.int 3), some (.int 1), some (.int 1), some (.int 0), none, none, none, none, none, none]) dX0_termYielded_51 rfl (by decide) rfl rfl ?_
      refine aw_iload (npc := 55) rfl dX0_termYielded_53 rfl ?_
      refine aw_if_eq (npc := 58) (tgt := 64) dX0_termYielded_55 rfl (by decide) (fun hc => absurd hc (by decide)) (fun _ => ?_)
      refine aw_iconst (npc := 59) (v := 1) (by decide) dX0_termYielded_58 rfl ?_
      refine aw_iload_n (npc := 60) rfl dX0_termYielded_59 rfl ?_
      refine aw_isubV (npc := 61) (v := 0) dX0_termYielded_60 rfl (by decide) ?_
      refine aw_goto (npc := 65) dX0_termYielded_61 (by decide) ?_
      refine aw_istore (npc := 67) (L' := [some (.ref b), some (.int (nI f)), some (.int 3), some (.int 1), some (.int 1), some (.int 0), some (.int 0), none, none, none, none, none]) dX0_termYielded_65 rfl (by decide) rfl rfl ?_
      refine aw_iconst (npc := 68) (v := -1) (by decide) dX0_termYielded_67 rfl ?_
      refine aw_istore (npc := 70) (L' := [some (.ref b), some (.int (nI f)), some (.int 3), some (.int 1), some (.int 1), some (.int 0), some (.int 0), some (.int (-1)), none, none, none, none]) dX0_termYielded_68 rfl (by decide) rfl rfl ?_
      refine aw_iconst (npc := 71) (v := 0) (by decide) dX0_termYielded_70 rfl ?_
      refine aw_istore (npc := 73) (L' := [some (.ref b), some (.int (nI f)), some (.int 3), some (.int 1), some (.int 1), some (.int 0), some (.int 0), some (.int (-1)), some (.int 0), none, none, none]) dX0_termYielded_71 rfl (by decide) rfl rfl ?_
      refine aw_iconst (npc := 74) (v := 0) (by decide) dX0_termYielded_73 rfl ?_
      refine aw_istore (npc := 76) (L' := [some (.ref b), some (.int (nI f)), some (.int 3), some (.int 1), some (.int 1), some (.int 0), some (.int 0), some (.int (-1)), some (.int 0), some (.int 0), none, none]) dX0_termYielded_74 rfl (by decide) rfl rfl ?_
      refine aw_locs (L' := [some (.ref b), some (.int (nI f)), some (.int 3), some (.int 1), some (.int 1), some (.int 0), some (.int 0), some (.int (-1)), some (.int 0), some (.int (nI 0)), none, none]) rfl ?_
      refine g_tyL100 F 4 0 (by omega) (-1) 0 none none ?_
      exact (show ty N f = (tyM 1 0 0 N 4 0 (-1, 0)).1 by simp [ty, tyK, ek, es]) ▸ hq
  · refine aw_top (y := 4) ek ?_
    refine aw_istore_n (npc := 7) (L' := [some (.ref b), some (.int (nI f)), some (.int 4), none, none, none, none, none, none, none, none, none]) dX0_termYielded_6 rfl (by decide) rfl rfl ?_
    refine aw_aload_n (npc := 8) rfl dX0_termYielded_7 rfl ?_
    refine aw_get (npc := 11) dX0_termYielded_8 rfl kf_X0_46 F.1 rfl ?_
    refine aw_iload_n (npc := 12) rfl dX0_termYielded_11 rfl ?_
    refine aw_iald (npc := 13) (x := N (23 + 5 * f)) (j := f) dX0_termYielded_12 rfl F.2.2.2.2.2.1 (am_ix_nI (by omega)) (tl_at (by omega)) ?_
    rcases wi_c0_1 hs with es | es
    · refine aw_top (y := 0) es ?_
      refine aw_istore_n (npc := 14) (L' := [some (.ref b), some (.int (nI f)), some (.int 4), some (.int 0), none, none, none, none, none, none, none, none]) dX0_termYielded_13 rfl (by decide) rfl rfl ?_
      refine aw_iload_n (npc := 15) rfl dX0_termYielded_14 rfl ?_
      refine aw_iconst (npc := 16) (v := 1) (by decide) dX0_termYielded_15 rfl ?_
      refine aw_icmp_eq (npc := 19) (tgt := 29) dX0_termYielded_16 rfl (by decide) (fun hc => absurd hc (by decide)) (fun _ => ?_)
      refine aw_iload_n (npc := 20) rfl dX0_termYielded_19 rfl ?_
      refine aw_iconst (npc := 21) (v := 3) (by decide) dX0_termYielded_20 rfl ?_
      refine aw_icmp_eq (npc := 24) (tgt := 29) dX0_termYielded_21 rfl (by decide) (fun hc => absurd hc (by decide)) (fun _ => ?_)
      refine aw_iload_n (npc := 25) rfl dX0_termYielded_24 rfl ?_
      refine aw_iconst (npc := 26) (v := 4) (by decide) dX0_termYielded_25 rfl ?_
      refine aw_icmp_ne (npc := 29) (tgt := 33) dX0_termYielded_26 rfl (by decide) (fun hc => absurd (by decide) hc) (fun _ => ?_)
      refine aw_iconst (npc := 30) (v := 1) (by decide) dX0_termYielded_29 rfl ?_
      refine aw_goto (npc := 34) dX0_termYielded_30 (by decide) ?_
      refine aw_istore (npc := 36) (L' := [some (.ref b), some (.int (nI f)), some (.int 4), some (.int 0), some (.int 1), none, none, none, none, none, none, none]) dX0_termYielded_34 rfl (by decide) rfl rfl ?_
      refine aw_iload_n (npc := 37) rfl dX0_termYielded_36 rfl ?_
      refine aw_iconst (npc := 38) (v := 4) (by decide) dX0_termYielded_37 rfl ?_
      refine aw_icmp_eq (npc := 41) (tgt := 46) dX0_termYielded_38 rfl (by decide) (fun _ => ?_) (fun hc => absurd (by decide) hc)
      refine aw_iconst (npc := 47) (v := 1) (by decide) dX0_termYielded_46 rfl ?_
      refine aw_goto (npc := 51) dX0_termYielded_47 (by decide) ?_
      refine aw_istore (npc := 53) (L' := [some (.ref b), some (.int (nI f)), some (.int 4), some (.int 0), some (.int 1), some (.int 1), none, none, none, none, none, none]) dX0_termYielded_51 rfl (by decide) rfl rfl ?_
      refine aw_iload (npc := 55) rfl dX0_termYielded_53 rfl ?_
      refine aw_if_eq (npc := 58) (tgt := 64) dX0_termYielded_55 rfl (by decide) (fun hc => absurd hc (by decide)) (fun _ => ?_)
      refine aw_iconst (npc := 59) (v := 1) (by decide) dX0_termYielded_58 rfl ?_
      refine aw_iload_n (npc := 60) rfl dX0_termYielded_59 rfl ?_
      refine aw_isubV (npc := 61) (v := 1) dX0_termYielded_60 rfl (by decide) ?_
      refine aw_goto (npc := 65) dX0_termYielded_61 (by decide) ?_
      refine aw_istore (npc := 67) (L' := [some (.ref b), some (.int (nI f)), some (.int 4), some (.int 0), some (.int 1), some (.int 1), some (.int 1), none, none, none, none, none]) dX0_termYielded_65 rfl (by decide) rfl rfl ?_
      refine aw_iconst (npc := 68) (v := -1) (by decide) dX0_termYielded_67 rfl ?_
      refine aw_istore (npc := 70) (L' := [some (.ref b), some (.int (nI f)), some (.int 4), some (.int 0), some (.int 1), some (.int 1), some (.int 1), some (.int (-1)), none, none, none, none]) dX0_termYielded_68 rfl (by decide) rfl rfl ?_
      refine aw_iconst (npc := 71) (v := 0) (by decide) dX0_termYielded_70 rfl ?_
      refine aw_istore (npc := 73) (L' := [some (.ref b), some (.int (nI f)), some (.int 4), some (.int 0), some (.int 1), some (.int 1), some (.int 1), some (.int (-1)), some (.int 0), none, none, none]) dX0_termYielded_71 rfl (by decide) rfl rfl ?_
      refine aw_iconst (npc := 74) (v := 0) (by decide) dX0_termYielded_73 rfl ?_
      refine aw_istore (npc := 76) (L' := [some (.ref b), some (.int (nI f)), some (.int 4), some (.int 0), some (.int 1), some (.int 1), some (.int 1), some (.int (-1)), some (.int 0), some (.int 0), none, none]) dX0_termYielded_74 rfl (by decide) rfl rfl ?_
      refine aw_locs (L' := [some (.ref b), some (.int (nI f)), some (.int 4), some (.int 0), some (.int 1), some (.int 1), some (.int 1), some (.int (-1)), some (.int 0), some (.int (nI 0)), none, none]) rfl ?_
      refine g_tyL011 F 4 0 (by omega) (-1) 0 none none ?_
      exact (show ty N f = (tyM 0 1 4 N 4 0 (-1, 0)).1 by simp [ty, tyK, ek, es]) ▸ hq
    · refine aw_top (y := 1) es ?_
      refine aw_istore_n (npc := 14) (L' := [some (.ref b), some (.int (nI f)), some (.int 4), some (.int 1), none, none, none, none, none, none, none, none]) dX0_termYielded_13 rfl (by decide) rfl rfl ?_
      refine aw_iload_n (npc := 15) rfl dX0_termYielded_14 rfl ?_
      refine aw_iconst (npc := 16) (v := 1) (by decide) dX0_termYielded_15 rfl ?_
      refine aw_icmp_eq (npc := 19) (tgt := 29) dX0_termYielded_16 rfl (by decide) (fun hc => absurd hc (by decide)) (fun _ => ?_)
      refine aw_iload_n (npc := 20) rfl dX0_termYielded_19 rfl ?_
      refine aw_iconst (npc := 21) (v := 3) (by decide) dX0_termYielded_20 rfl ?_
      refine aw_icmp_eq (npc := 24) (tgt := 29) dX0_termYielded_21 rfl (by decide) (fun hc => absurd hc (by decide)) (fun _ => ?_)
      refine aw_iload_n (npc := 25) rfl dX0_termYielded_24 rfl ?_
      refine aw_iconst (npc := 26) (v := 4) (by decide) dX0_termYielded_25 rfl ?_
      refine aw_icmp_ne (npc := 29) (tgt := 33) dX0_termYielded_26 rfl (by decide) (fun hc => absurd (by decide) hc) (fun _ => ?_)
      refine aw_iconst (npc := 30) (v := 1) (by decide) dX0_termYielded_29 rfl ?_
      refine aw_goto (npc := 34) dX0_termYielded_30 (by decide) ?_
      refine aw_istore (npc := 36) (L' := [some (.ref b), some (.int (nI f)), some (.int 4), some (.int 1), some (.int 1), none, none, none, none, none, none, none]) dX0_termYielded_34 rfl (by decide) rfl rfl ?_
      refine aw_iload_n (npc := 37) rfl dX0_termYielded_36 rfl ?_
      refine aw_iconst (npc := 38) (v := 4) (by decide) dX0_termYielded_37 rfl ?_
      refine aw_icmp_eq (npc := 41) (tgt := 46) dX0_termYielded_38 rfl (by decide) (fun _ => ?_) (fun hc => absurd (by decide) hc)
      refine aw_iconst (npc := 47) (v := 1) (by decide) dX0_termYielded_46 rfl ?_
      refine aw_goto (npc := 51) dX0_termYielded_47 (by decide) ?_
      refine aw_istore (npc := 53) (L' := [some (.ref b), some (.int (nI f)), some (.int 4), some (.int 1), some (.int 1), some (.int 1), none, none, none, none, none, none]) dX0_termYielded_51 rfl (by decide) rfl rfl ?_
      refine aw_iload (npc := 55) rfl dX0_termYielded_53 rfl ?_
      refine aw_if_eq (npc := 58) (tgt := 64) dX0_termYielded_55 rfl (by decide) (fun hc => absurd hc (by decide)) (fun _ => ?_)
      refine aw_iconst (npc := 59) (v := 1) (by decide) dX0_termYielded_58 rfl ?_
      refine aw_iload_n (npc := 60) rfl dX0_termYielded_59 rfl ?_
      refine aw_isubV (npc := 61) (v := 0) dX0_termYielded_60 rfl (by decide) ?_
      refine aw_goto (npc := 65) dX0_termYielded_61 (by decide) ?_
      refine aw_istore (npc := 67) (L' := [some (.ref b), some (.int (nI f)), some (.int 4), some (.int 1), some (.int 1), some (.int 1), some (.int 0), none, none, none, none, none]) dX0_termYielded_65 rfl (by decide) rfl rfl ?_
      refine aw_iconst (npc := 68) (v := -1) (by decide) dX0_termYielded_67 rfl ?_
      refine aw_istore (npc := 70) (L' := [some (.ref b), some (.int (nI f)), some (.int 4), some (.int 1), some (.int 1), some (.int 1), some (.int 0), some (.int (-1)), none, none, none, none]) dX0_termYielded_68 rfl (by decide) rfl rfl ?_
      refine aw_iconst (npc := 71) (v := 0) (by decide) dX0_termYielded_70 rfl ?_
      refine aw_istore (npc := 73) (L' := [some (.ref b), some (.int (nI f)), some (.int 4), some (.int 1), some (.int 1), some (.int 1), some (.int 0), some (.int (-1)), some (.int 0), none, none, none]) dX0_termYielded_71 rfl (by decide) rfl rfl ?_
      refine aw_iconst (npc := 74) (v := 0) (by decide) dX0_termYielded_73 rfl ?_
      refine aw_istore (npc := 76) (L' := [some (.ref b), some (.int (nI f)), some (.int 4), some (.int 1), some (.int 1), some (.int 1), some (.int 0), some (.int (-1)), some (.int 0), some (.int 0), none, none]) dX0_termYielded_74 rfl (by decide) rfl rfl ?_
      refine aw_locs (L' := [some (.ref b), some (.int (nI f)), some (.int 4), some (.int 1), some (.int 1), some (.int 1), some (.int 0), some (.int (-1)), some (.int 0), some (.int (nI 0)), none, none]) rfl ?_
      refine g_tyL110 F 4 0 (by omega) (-1) 0 none none ?_
      exact (show ty N f = (tyM 1 1 0 N 4 0 (-1, 0)).1 by simp [ty, tyK, ek, es]) ▸ hq
  · refine aw_top (y := 5) ek ?_
    refine aw_istore_n (npc := 7) (L' := [some (.ref b), some (.int (nI f)), some (.int 5), none, none, none, none, none, none, none, none, none]) dX0_termYielded_6 rfl (by decide) rfl rfl ?_
    refine aw_aload_n (npc := 8) rfl dX0_termYielded_7 rfl ?_
    refine aw_get (npc := 11) dX0_termYielded_8 rfl kf_X0_46 F.1 rfl ?_
    refine aw_iload_n (npc := 12) rfl dX0_termYielded_11 rfl ?_
    refine aw_iald (npc := 13) (x := N (23 + 5 * f)) (j := f) dX0_termYielded_12 rfl F.2.2.2.2.2.1 (am_ix_nI (by omega)) (tl_at (by omega)) ?_
    rcases wi_c0_1 hs with es | es
    · refine aw_top (y := 0) es ?_
      refine aw_istore_n (npc := 14) (L' := [some (.ref b), some (.int (nI f)), some (.int 5), some (.int 0), none, none, none, none, none, none, none, none]) dX0_termYielded_13 rfl (by decide) rfl rfl ?_
      refine aw_iload_n (npc := 15) rfl dX0_termYielded_14 rfl ?_
      refine aw_iconst (npc := 16) (v := 1) (by decide) dX0_termYielded_15 rfl ?_
      refine aw_icmp_eq (npc := 19) (tgt := 29) dX0_termYielded_16 rfl (by decide) (fun hc => absurd hc (by decide)) (fun _ => ?_)
      refine aw_iload_n (npc := 20) rfl dX0_termYielded_19 rfl ?_
      refine aw_iconst (npc := 21) (v := 3) (by decide) dX0_termYielded_20 rfl ?_
      refine aw_icmp_eq (npc := 24) (tgt := 29) dX0_termYielded_21 rfl (by decide) (fun hc => absurd hc (by decide)) (fun _ => ?_)
      refine aw_iload_n (npc := 25) rfl dX0_termYielded_24 rfl ?_
      refine aw_iconst (npc := 26) (v := 4) (by decide) dX0_termYielded_25 rfl ?_
      refine aw_icmp_ne (npc := 29) (tgt := 33) dX0_termYielded_26 rfl (by decide) (fun _ => ?_) (fun hc => absurd hc (by decide))
      refine aw_iconst (npc := 34) (v := 0) (by decide) dX0_termYielded_33 rfl ?_
      refine aw_istore (npc := 36) (L' := [some (.ref b), some (.int (nI f)), some (.int 5), some (.int 0), some (.int 0), none, none, none, none, none, none, none]) dX0_termYielded_34 rfl (by decide) rfl rfl ?_
      refine aw_iload_n (npc := 37) rfl dX0_termYielded_36 rfl ?_
      refine aw_iconst (npc := 38) (v := 4) (by decide) dX0_termYielded_37 rfl ?_
      refine aw_icmp_eq (npc := 41) (tgt := 46) dX0_termYielded_38 rfl (by decide) (fun hc => absurd hc (by decide)) (fun _ => ?_)
      refine aw_iload_n (npc := 42) rfl dX0_termYielded_41 rfl ?_
      refine aw_iconst (npc := 43) (v := 5) (by decide) dX0_termYielded_42 rfl ?_
      refine aw_icmp_ne (npc := 46) (tgt := 50) dX0_termYielded_43 rfl (by decide) (fun hc => absurd (by decide) hc) (fun _ => ?_)
      refine aw_iconst (npc := 47) (v := 1) (by decide) dX0_termYielded_46 rfl ?_
      refine aw_goto (npc := 51) dX0_termYielded_47 (by decide) ?_
      refine aw_istore (npc := 53) (L' := [some (.ref b), some (.int (nI f)), some (.int 5), some (.int 0), some (.int 0), some (.int 1), none, none, none, none, none, none]) dX0_termYielded_51 rfl (by decide) rfl rfl ?_
      refine aw_iload (npc := 55) rfl dX0_termYielded_53 rfl ?_
      refine aw_if_eq (npc := 58) (tgt := 64) dX0_termYielded_55 rfl (by decide) (fun _ => ?_) (fun hc => absurd (by decide) hc)
      refine aw_iload_n (npc := 65) rfl dX0_termYielded_64 rfl ?_
      refine aw_istore (npc := 67) (L' := [some (.ref b), some (.int (nI f)), some (.int 5), some (.int 0), some (.int 0), some (.int 1), some (.int 0), none, none, none, none, none]) dX0_termYielded_65 rfl (by decide) rfl rfl ?_
      refine aw_iconst (npc := 68) (v := -1) (by decide) dX0_termYielded_67 rfl ?_
      refine aw_istore (npc := 70) (L' := [some (.ref b), some (.int (nI f)), some (.int 5), some (.int 0), some (.int 0), some (.int 1), some (.int 0), some (.int (-1)), none, none, none, none]) dX0_termYielded_68 rfl (by decide) rfl rfl ?_
      refine aw_iconst (npc := 71) (v := 0) (by decide) dX0_termYielded_70 rfl ?_
      refine aw_istore (npc := 73) (L' := [some (.ref b), some (.int (nI f)), some (.int 5), some (.int 0), some (.int 0), some (.int 1), some (.int 0), some (.int (-1)), some (.int 0), none, none, none]) dX0_termYielded_71 rfl (by decide) rfl rfl ?_
      refine aw_iconst (npc := 74) (v := 0) (by decide) dX0_termYielded_73 rfl ?_
      refine aw_istore (npc := 76) (L' := [some (.ref b), some (.int (nI f)), some (.int 5), some (.int 0), some (.int 0), some (.int 1), some (.int 0), some (.int (-1)), some (.int 0), some (.int 0), none, none]) dX0_termYielded_74 rfl (by decide) rfl rfl ?_
      refine aw_locs (L' := [some (.ref b), some (.int (nI f)), some (.int 5), some (.int 0), some (.int 0), some (.int 1), some (.int 0), some (.int (-1)), some (.int 0), some (.int (nI 0)), none, none]) rfl ?_
      refine g_tyL010 F 4 0 (by omega) (-1) 0 none none ?_
      exact (show ty N f = (tyM 0 1 0 N 4 0 (-1, 0)).1 by simp [ty, tyK, ek, es]) ▸ hq
    · refine aw_top (y := 1) es ?_
      refine aw_istore_n (npc := 14) (L' := [some (.ref b), some (.int (nI f)), some (.int 5), some (.int 1), none, none, none, none, none, none, none, none]) dX0_termYielded_13 rfl (by decide) rfl rfl ?_
      refine aw_iload_n (npc := 15) rfl dX0_termYielded_14 rfl ?_
      refine aw_iconst (npc := 16) (v := 1) (by decide) dX0_termYielded_15 rfl ?_
      refine aw_icmp_eq (npc := 19) (tgt := 29) dX0_termYielded_16 rfl (by decide) (fun hc => absurd hc (by decide)) (fun _ => ?_)
      refine aw_iload_n (npc := 20) rfl dX0_termYielded_19 rfl ?_
      refine aw_iconst (npc := 21) (v := 3) (by decide) dX0_termYielded_20 rfl ?_
      refine aw_icmp_eq (npc := 24) (tgt := 29) dX0_termYielded_21 rfl (by decide) (fun hc => absurd hc (by decide)) (fun _ => ?_)
      refine aw_iload_n (npc := 25) rfl dX0_termYielded_24 rfl ?_
      refine aw_iconst (npc := 26) (v := 4) (by decide) dX0_termYielded_25 rfl ?_
      refine aw_icmp_ne (npc := 29) (tgt := 33) dX0_termYielded_26 rfl (by decide) (fun _ => ?_) (fun hc => absurd hc (by decide))
      refine aw_iconst (npc := 34) (v := 0) (by decide) dX0_termYielded_33 rfl ?_
      refine aw_istore (npc := 36) (L' := [some (.ref b), some (.int (nI f)), some (.int 5), some (.int 1), some (.int 0), none, none, none, none, none, none, none]) dX0_termYielded_34 rfl (by decide) rfl rfl ?_
      refine aw_iload_n (npc := 37) rfl dX0_termYielded_36 rfl ?_
      refine aw_iconst (npc := 38) (v := 4) (by decide) dX0_termYielded_37 rfl ?_
      refine aw_icmp_eq (npc := 41) (tgt := 46) dX0_termYielded_38 rfl (by decide) (fun hc => absurd hc (by decide)) (fun _ => ?_)
      refine aw_iload_n (npc := 42) rfl dX0_termYielded_41 rfl ?_
      refine aw_iconst (npc := 43) (v := 5) (by decide) dX0_termYielded_42 rfl ?_
      refine aw_icmp_ne (npc := 46) (tgt := 50) dX0_termYielded_43 rfl (by decide) (fun hc => absurd (by decide) hc) (fun _ => ?_)
      refine aw_iconst (npc := 47) (v := 1) (by decide) dX0_termYielded_46 rfl ?_
      refine aw_goto (npc := 51) dX0_termYielded_47 (by decide) ?_
      refine aw_istore (npc := 53) (L' := [some (.ref b), some (.int (nI f)), some (.int 5), some (.int 1), some (.int 0), some (.int 1), none, none, none, none, none, none]) dX0_termYielded_51 rfl (by decide) rfl rfl ?_
      refine aw_iload (npc := 55) rfl dX0_termYielded_53 rfl ?_
      refine aw_if_eq (npc := 58) (tgt := 64) dX0_termYielded_55 rfl (by decide) (fun _ => ?_) (fun hc => absurd (by decide) hc)
      refine aw_iload_n (npc := 65) rfl dX0_termYielded_64 rfl ?_
      refine aw_istore (npc := 67) (L' := [some (.ref b), some (.int (nI f)), some (.int 5), some (.int 1), some (.int 0), some (.int 1), some (.int 1), none, none, none, none, none]) dX0_termYielded_65 rfl (by decide) rfl rfl ?_
      refine aw_iconst (npc := 68) (v := -1) (by decide) dX0_termYielded_67 rfl ?_
      refine aw_istore (npc := 70) (L' := [some (.ref b), some (.int (nI f)), some (.int 5), some (.int 1), some (.int 0), some (.int 1), some (.int 1), some (.int (-1)), none, none, none, none]) dX0_termYielded_68 rfl (by decide) rfl rfl ?_
      refine aw_iconst (npc := 71) (v := 0) (by decide) dX0_termYielded_70 rfl ?_
      refine aw_istore (npc := 73) (L' := [some (.ref b), some (.int (nI f)), some (.int 5), some (.int 1), some (.int 0), some (.int 1), some (.int 1), some (.int (-1)), some (.int 0), none, none, none]) dX0_termYielded_71 rfl (by decide) rfl rfl ?_
      refine aw_iconst (npc := 74) (v := 0) (by decide) dX0_termYielded_73 rfl ?_
      refine aw_istore (npc := 76) (L' := [some (.ref b), some (.int (nI f)), some (.int 5), some (.int 1), some (.int 0), some (.int 1), some (.int 1), some (.int (-1)), some (.int 0), some (.int 0), none, none]) dX0_termYielded_74 rfl (by decide) rfl rfl ?_
      refine aw_locs (L' := [some (.ref b), some (.int (nI f)), some (.int 5), some (.int 1), some (.int 0), some (.int 1), some (.int 1), some (.int (-1)), some (.int 0), some (.int (nI 0)), none, none]) rfl ?_
      refine g_tyL111 F 4 0 (by omega) (-1) 0 none none ?_
      exact (show ty N f = (tyM 1 1 4 N 4 0 (-1, 0)).1 by simp [ty, tyK, ek, es]) ▸ hq
def am_f2 (b : Nat) (h' h : am_H) : Prop := ∀ k, k < 92 → (k < b ∨ b + 12 ≤ k) → h' k = h k
theorem am_f20 {b : Nat} {h : am_H} : am_f2 b h h := fun _ _ _ => rfl
theorem am_f2U {b a : Nat} {h h' : am_H} {c : am_AC} (ha : b ≤ a ∧ a < b + 12) (hf : am_f2 b h' h) : am_f2 b (am_up h' a c) h := fun k h1 h2 => by
  rw [am_nE (by omega)]
  exact hf k h1 h2
theorem am_f2T {b : Nat} {h h' h'' : am_H} (h1 : am_f2 b h'' h') (h2 : am_f2 b h' h) : am_f2 b h'' h := fun k a c => (h1 k a c).trans (h2 k a c)
theorem am_f2B {b : Nat} {h h' : am_H} (h1 : am_fb b (b + 12) h' h) : am_f2 b h' h := fun k _ c => h1 k c
theorem am_f2C {b T : Nat} {h h' : am_H} (h1 : am_fb 92 (92 + 3 * T) h' h) : am_f2 b h' h := fun k a _ => h1 k (Or.inl a)
theorem qr_mv {b : Nat} {N : Nat → Int32} {tx : List Value} {lk mv mv' : Nat → Int32} {h : am_H} (hm : ∀ i, i < 4 → mv i = mv' i) (F : QR b N tx lk mv h) : QR b N tx lk mv' h := by
  obtain ⟨f0, f1, f2, f3, f4, f5, f6, f7, f8, f9, f10, f11⟩ := F
  exact ⟨f0, f1, f2, f3, f4, f5, f6, f7, f8, f9, f10, f11.trans (congrArg (fun l : List Int32 => (some (.inl (0, l)) : Option am_AC)) (tl_congr hm))⟩
def sentN (N : Nat → Int32) (f : Nat) : Nat → Int32 := upd N (25 + 5 * f) (N (25 + 5 * f) + 1)
def rem100 (x : Int32) : Int32 := x - x / 100 * 100
def letR (tb : TB) (tx : List Value) (lk : Nat → Int32) (f : Nat) (σ σ' : (Nat → Int32) × (Nat → Int32) × Int32 × Int32) : Prop :=
  (¬ (drawN (sentN σ.1 f)) 5 ≤ rem100 (drawV (sentN σ.1 f)) ∧ σ' = (upd (drawN (sentN σ.1 f)) 6 ((drawN (sentN σ.1 f)) 6 + 1), σ.2.1, σ.2.2.1, σ.2.2.2)) ∨
  ((drawN (sentN σ.1 f)) 5 ≤ rem100 (drawV (sentN σ.1 f)) ∧ ∃ τ, TNr tb tx lk (drawN (sentN σ.1 f)) f τ ∧
    ((¬ τ < 50 ∧ σ' = (drawN (sentN σ.1 f), σ.2.1, σ.2.2.1 + 5, σ.2.2.2)) ∨
     (τ < 50 ∧ ¬ wi (ty (drawN (sentN σ.1 f)) f) 0 3 ∧ σ' = (drawN (sentN σ.1 f), σ.2.1, σ.2.2.1, σ.2.2.2)) ∨
     (τ < 50 ∧ ∃ t, t < 4 ∧ ty (drawN (sentN σ.1 f)) f = nI t ∧ σ' = (upd (drawN (sentN σ.1 f)) (26 + 5 * f) ((drawN (sentN σ.1 f)) (26 + 5 * f) + 1), upd σ.2.1 t (σ.2.1 t + (if (drawN (sentN σ.1 f)) (23 + 5 * f) = 0 then -1 else 1)), σ.2.2.1 + (-1), σ.2.2.2 + 1))))
def LSr (tb : TB) (tx : List Value) (lk : Nat → Int32) (wo : Int32) : Nat → Nat → (Nat → Int32) × (Nat → Int32) × Int32 × Int32 → (Nat → Int32) × (Nat → Int32) × Int32 × Int32 → Prop
  | 0, _, σ, σ' => σ' = σ
  | m + 1, i, σ, σ' => ∃ σ1, ((nI i = wo ∧ σ1 = σ) ∨ (¬ nI i = wo ∧ letR tb tx lk i σ σ1)) ∧ LSr tb tx lk wo m (i + 1) σ1 σ'
theorem sd_keep {N : Nat → Int32} {f k : Nat} (h0 : k ≠ 0) (h1 : k ≠ 25 + 5 * f) : (drawN (sentN N f)) k = N k := by
  unfold drawN sentN
  rw [pk_un h0, pk_un h1]
theorem let_keep {tb : TB} {tx : List Value} {lk : Nat → Int32} {f k : Nat} {σ σ' : (Nat → Int32) × (Nat → Int32) × Int32 × Int32} (hk0 : k ≠ 0) (hk6 : k ≠ 6) (hk1 : k ≠ 25 + 5 * f) (hk2 : k ≠ 26 + 5 * f) (h : letR tb tx lk f σ σ') : σ'.1 k = σ.1 k := by
  rcases h with ⟨-, rfl⟩ | ⟨-, τ, -, ⟨-, rfl⟩ | ⟨-, -, rfl⟩ | ⟨-, t, -, -, rfl⟩⟩
  · exact (pk_un hk6).trans (sd_keep hk0 hk1)
  · exact sd_keep hk0 hk1
  · exact sd_keep hk0 hk1
  · exact (pk_un hk2).trans (sd_keep hk0 hk1)
def WK (N : Nat → Int32) : Prop := ∀ f, f < 8 → wi (N (22 + 5 * f)) 0 5 ∧ wi (N (23 + 5 * f)) 0 1
set_option maxHeartbeats 4000000 in
set_option maxRecDepth 100000 in
theorem g_letL {X : List Int32} {d rc rs n : Nat} {Q : am_Q} {b : Nat} {tx : List Value} {lk : Nat → Int32} {fr c : Nat} {wo : Int32} {tb : TB} {N0 : Nat → Int32} (hF : N0 1 = nI fr) (hfr : fr ≤ 8) (hc7 : N0 7 = nI c) (hv : TXv tb.1 c tx) (hK : WK N0) (hb : b + 12 ≤ 92) : ∀ (m i : Nat), i + m = fr → ∀ (N mv : Nat → Int32) (w s : Int32) (v5 : Option Value) (h : am_H), QR b N tx lk mv h → TT tb h → (∀ k, k ≠ 0 → k ≠ 6 → (∀ f, k ≠ 25 + 5 * f) → (∀ f, k ≠ 26 + 5 * f) → N k = N0 k) → (∀ (σ' : (Nat → Int32) × (Nat → Int32) × Int32 × Int32) (h9 : am_H) (v9 : Option Value), LSr tb tx lk wo m i (N, mv, w, s) σ' → QR b σ'.1 tx lk σ'.2.1 h9 → TT tb h9 → am_f2 b h9 h → AW X mX0_writeLetters (d + 10) rc rs 152 [some (.ref b), some (.int wo), some (.int σ'.2.2.1), some (.int σ'.2.2.2), some (.int (nI fr)), v9] [] n h9 Q) → AW X mX0_writeLetters (d + 10) rc rs 15 [some (.ref b), some (.int wo), some (.int w), some (.int s), some (.int (nI i)), v5] [] n h Q := by
  intro m
  induction m with
  | zero =>
    intro i hi N mv w s v5 h F G hkp hq
    obtain rfl : i = fr := by omega
    refine aw_iload (npc := 17) rfl dX0_writeLetters_15 rfl ?_
    refine aw_aload_n (npc := 18) rfl dX0_writeLetters_17 rfl ?_
    refine aw_get (npc := 21) dX0_writeLetters_18 rfl kf_X0_40 F.1 rfl ?_
    refine aw_top (y := nI i) ((hkp 1 (by omega) (by omega) (by omega) (by omega)).trans hF) ?_
    refine aw_icmp_ge (npc := 24) (tgt := 152) dX0_writeLetters_21 rfl (by decide) (fun _ => ?_) (fun hc => absurd (nI_le (Nat.le_refl _) (by omega)) hc)
    exact hq (N, mv, w, s) h v5 rfl F G am_f20
  | succ m ih =>
    intro i hi N mv w s v5 h F G hkp hq
    have hc7 : N 7 = nI c := (hkp 7 (by omega) (by omega) (by omega) (by omega)).trans hc7
    have hK : WK N := fun f hf => by
      rw [hkp (22 + 5 * f) (by omega) (by omega) (by omega) (by omega), hkp (23 + 5 * f) (by omega) (by omega) (by omega) (by omega)]
      exact hK f hf
    refine aw_iload (npc := 17) rfl dX0_writeLetters_15 rfl ?_
    refine aw_aload_n (npc := 18) rfl dX0_writeLetters_17 rfl ?_
    refine aw_get (npc := 21) dX0_writeLetters_18 rfl kf_X0_40 F.1 rfl ?_
    refine aw_top (y := nI fr) ((hkp 1 (by omega) (by omega) (by omega) (by omega)).trans hF) ?_
    refine aw_icmp_ge (npc := 24) (tgt := 152) dX0_writeLetters_21 rfl (by decide) (fun hc => absurd hc (nI_ge (a := i) (b := fr) (by omega) (by omega))) (fun _ => ?_)
    refine aw_iload (npc := 26) rfl dX0_writeLetters_24 rfl ?_
    refine aw_iload_n (npc := 27) rfl dX0_writeLetters_26 rfl ?_
    refine aw_icmp_ne (npc := 30) (tgt := 33) dX0_writeLetters_27 rfl (by decide) (fun hc2 => ?_) (fun hc2 => ?_)
    · refine aw_aload_n (npc := 34) rfl dX0_writeLetters_33 rfl ?_
      refine aw_get (npc := 37) dX0_writeLetters_34 rfl kf_X0_52 F.1 rfl ?_
      refine aw_iload (npc := 39) rfl dX0_writeLetters_37 rfl ?_
      refine aw_dup2 (npc := 40) rfl rfl dX0_writeLetters_39 rfl ?_
      refine aw_iald (npc := 41) (x := N (25 + 5 * i)) (j := i) dX0_writeLetters_40 rfl F.2.2.2.2.2.2.2.1 (am_ix_nI (by omega)) (tl_at (by omega)) ?_
      refine aw_iconst (npc := 42) (v := 1) (by decide) dX0_writeLetters_41 rfl ?_
      refine aw_iadd (npc := 43) dX0_writeLetters_42 rfl ?_
      refine aw_iast (npc := 44) (j := i) dX0_writeLetters_43 rfl F.2.2.2.2.2.2.2.1 (am_ix_nI (by omega)) (by rw [tl_len]; omega) rfl ?_
      have F3 := qr_sent (j := i) (v := (N (25 + 5 * i)) + 1) F (by omega)
      have G4 := tt_out (k := b + 7) (c := .inl (0, (tl 8 (fun z9 => N (25 + 5 * z9))).set i ((N (25 + 5 * i)) + 1))) (by omega) G
      refine aw_aload_n (npc := 45) rfl dX0_writeLetters_44 rfl ?_
      refine aw_callV (npc := 48) (N := mX0_draw) (b := b) (mc := 0) (ms := 0) (A := []) (S := []) (L0 := [some (.ref b)]) dX0_writeLetters_45 rfl km_X0_draw kk_X0_133 F3.1 ⟨by decide, rfl⟩ rfl ⟨rfl, by decide⟩ rfl (Nat.le_of_ble_eq_true rfl) (Nat.zero_add _) (Nat.zero_add _) rfl ?_
      refine g_draw F3 (fun hp7 F6 fz5 => ?_)
      have G8 := tt_frame G4 (fun k hk => fz5 k (by omega))
      have F9 : QR b (drawN (sentN N i)) tx lk mv hp7 := F6
      refine aw_re (S' := [.int (drawV (sentN N i))]) rfl ?_
      refine aw_bipush (npc := 50) (v := 100) (by decide) dX0_writeLetters_48 rfl ?_
      refine aw_irem (npc := 51) (by decide) dX0_writeLetters_50 rfl ?_
      refine aw_aload_n (npc := 52) rfl dX0_writeLetters_51 rfl ?_
      refine aw_get (npc := 55) dX0_writeLetters_52 rfl kf_X0_28 F9.1 rfl ?_
      refine aw_icmp_ge (npc := 58) (tgt := 71) dX0_writeLetters_55 rfl (by decide) (fun hc10 => ?_) (fun hc10 => ?_)
      · refine aw_aload_n (npc := 72) rfl dX0_writeLetters_71 rfl ?_
        refine aw_iload (npc := 74) rfl dX0_writeLetters_72 rfl ?_
        refine aw_callV (npc := 77) (N := mX0_toneOf) (b := b) (mc := 0) (ms := 0) (A := [.int (nI i)]) (S := []) (L0 := [some (.ref b), some (.int (nI i)), none, none]) dX0_writeLetters_74 rfl km_X0_toneOf kk_X0_137 F9.1 ⟨by decide, rfl⟩ rfl ⟨rfl, by decide⟩ rfl (Nat.le_of_ble_eq_true rfl) (Nat.zero_add _) (Nat.zero_add _) rfl ?_
        refine g_tone F9 G8 ((sd_keep (by omega) (by omega)).trans hc7) hv (by omega) (by rw [sd_keep (by omega) (by omega)]; exact (hK i (by omega)).1) (by omega) (fun τ15 hp14 ht16 F12 G13 fz11 => ?_)
        refine aw_re (S' := [.int τ15]) rfl ?_
        refine aw_bipush (npc := 79) (v := 50) (by decide) dX0_writeLetters_77 rfl ?_
        refine aw_icmp_lt (npc := 82) (tgt := 88) dX0_writeLetters_79 rfl (by decide) (fun hc17 => ?_) (fun hc17 => ?_)
        · refine aw_aload_n (npc := 89) rfl dX0_writeLetters_88 rfl ?_
          refine aw_iload (npc := 91) rfl dX0_writeLetters_89 rfl ?_
          refine aw_callV (npc := 94) (N := mX0_termYielded) (b := b) (mc := 0) (ms := 0) (A := [.int (nI i)]) (S := []) (L0 := [some (.ref b), some (.int (nI i)), none, none, none, none, none, none, none, none, none, none]) dX0_writeLetters_91 rfl km_X0_termYielded kk_X0_140 F12.1 ⟨by decide, rfl⟩ rfl ⟨rfl, by decide⟩ rfl (Nat.le_of_ble_eq_true rfl) (Nat.zero_add _) (Nat.zero_add _) rfl ?_
          refine g_term F12 (by omega) (by rw [sd_keep (by omega) (by omega)]; exact (hK i (by omega)).1) (by rw [sd_keep (by omega) (by omega)]; exact (hK i (by omega)).2) ?_
          refine aw_re (S' := [.int (ty (drawN (sentN N i)) i)]) rfl ?_
          refine aw_istore (npc := 96) (L' := [some (.ref b), some (.int wo), some (.int w), some (.int s), some (.int (nI i)), some (.int (ty (drawN (sentN N i)) i))]) dX0_writeLetters_94 rfl (by decide) rfl rfl ?_
          refine aw_iload (npc := 98) rfl dX0_writeLetters_96 rfl ?_
          refine aw_callSN (npc := 101) (N := mX7_isTerm) (mc := 0) (ms := 0) (A := [.int (ty (drawN (sentN N i)) i)]) (S := []) (L0 := [some (.int (ty (drawN (sentN N i)) i))]) dX0_writeLetters_98 rfl km_X7_isTerm kk_X0_143 rfl ⟨rfl, by decide⟩ rfl (Nat.le_of_ble_eq_true rfl) (Nat.zero_add _) (Nat.zero_add _) rfl ?_
          refine c_X7_isTerm (fun hw18 => ?_) (fun hw18 => ?_)
          · refine aw_re (S' := [.int 1]) rfl ?_
            refine aw_if_eq (npc := 104) (tgt := 146) dX0_writeLetters_101 rfl (by decide) (fun hc => absurd hc (by decide)) (fun _ => ?_)
            obtain ⟨t, ht3, het⟩ := wi_nI (H := 3) rfl (by decide) hw18
            have ht4 : t < 4 := by omega
            refine aw_locs (L' := [some (.ref b), some (.int wo), some (.int w), some (.int s), some (.int (nI i)), some (.int (nI t))]) (by rw [het]) ?_
            refine aw_aload_n (npc := 105) rfl dX0_writeLetters_104 rfl ?_
            refine aw_get (npc := 108) dX0_writeLetters_105 rfl kf_X0_70 F12.1 rfl ?_
            refine aw_iload (npc := 110) rfl dX0_writeLetters_108 rfl ?_
            refine aw_dup2 (npc := 111) rfl rfl dX0_writeLetters_110 rfl ?_
            refine aw_iald (npc := 112) (x := mv t) (j := t) dX0_writeLetters_111 rfl F12.2.2.2.2.2.2.2.2.2.2.2 (am_ix_nI (by omega)) (tl_at (by omega)) ?_
            refine aw_aload_n (npc := 113) rfl dX0_writeLetters_112 rfl ?_
            refine aw_get (npc := 116) dX0_writeLetters_113 rfl kf_X0_46 F12.1 rfl ?_
            refine aw_iload (npc := 118) rfl dX0_writeLetters_116 rfl ?_
            refine aw_iald (npc := 119) (x := (drawN (sentN N i)) (23 + 5 * i)) (j := i) dX0_writeLetters_118 rfl F12.2.2.2.2.2.1 (am_ix_nI (by omega)) (tl_at (by omega)) ?_
            refine aw_if_ne (npc := 122) (tgt := 126) dX0_writeLetters_119 rfl (by decide) (fun hc19 => ?_) (fun hc19 => ?_)
            · refine aw_iconst (npc := 127) (v := 1) (by decide) dX0_writeLetters_126 rfl ?_
              refine aw_iadd (npc := 128) dX0_writeLetters_127 rfl ?_
              refine aw_iast (npc := 129) (j := t) dX0_writeLetters_128 rfl F12.2.2.2.2.2.2.2.2.2.2.2 (am_ix_nI (by omega)) (by rw [tl_len]; omega) rfl ?_
              have F20 := qr_moves (j := t) (v := (mv t) + 1) F12
              have G21 := tt_out (k := b + 11) (c := .inl (0, (tl 4 mv).set t ((mv t) + 1))) (by omega) G13
              refine aw_aload_n (npc := 130) rfl dX0_writeLetters_129 rfl ?_
              refine aw_get (npc := 133) dX0_writeLetters_130 rfl kf_X0_55 F20.1 rfl ?_
              refine aw_iload (npc := 135) rfl dX0_writeLetters_133 rfl ?_
              refine aw_dup2 (npc := 136) rfl rfl dX0_writeLetters_135 rfl ?_
              refine aw_iald (npc := 137) (x := (drawN (sentN N i)) (26 + 5 * i)) (j := i) dX0_writeLetters_136 rfl F20.2.2.2.2.2.2.2.2.1 (am_ix_nI (by omega)) (tl_at (by omega)) ?_
              refine aw_iconst (npc := 138) (v := 1) (by decide) dX0_writeLetters_137 rfl ?_
              refine aw_iadd (npc := 139) dX0_writeLetters_138 rfl ?_
              refine aw_iast (npc := 140) (j := i) dX0_writeLetters_139 rfl F20.2.2.2.2.2.2.2.2.1 (am_ix_nI (by omega)) (by rw [tl_len]; omega) rfl ?_
              have F22 := qr_yield (j := i) (v := ((drawN (sentN N i)) (26 + 5 * i)) + 1) F20 (by omega)
              have G23 := tt_out (k := b + 8) (c := .inl (0, (tl 8 (fun z9 => (drawN (sentN N i)) (26 + 5 * z9))).set i (((drawN (sentN N i)) (26 + 5 * i)) + 1))) (by omega) G21
              refine aw_iinc (npc := 143) (v := w + (-1)) (L' := [some (.ref b), some (.int wo), some (.int (w + (-1))), some (.int s), some (.int (nI i)), some (.int (nI t))]) dX0_writeLetters_140 rfl rfl rfl (by decide) rfl rfl ?_
              refine aw_iinc (npc := 146) (v := s + 1) (L' := [some (.ref b), some (.int wo), some (.int (w + (-1))), some (.int (s + 1)), some (.int (nI i)), some (.int (nI t))]) dX0_writeLetters_143 rfl rfl rfl (by decide) rfl rfl ?_
              refine aw_iinc (npc := 149) (v := nI (i + 1)) (L' := [some (.ref b), some (.int wo), some (.int (w + (-1))), some (.int (s + 1)), some (.int (nI (i + 1))), some (.int (nI t))]) dX0_writeLetters_146 rfl rfl (nI_1 _) (by decide) rfl rfl ?_
              refine aw_goto (npc := 15) dX0_writeLetters_149 (by decide) ?_
              have hst : (nI i = wo ∧ ((upd (drawN (sentN N i)) (26 + 5 * i) (((drawN (sentN N i)) (26 + 5 * i)) + 1), upd mv t ((mv t) + 1), w + (-1), s + 1) : (Nat → Int32) × (Nat → Int32) × Int32 × Int32) = (N, mv, w, s)) ∨ (¬ nI i = wo ∧ letR tb tx lk i (N, mv, w, s) (upd (drawN (sentN N i)) (26 + 5 * i) (((drawN (sentN N i)) (26 + 5 * i)) + 1), upd mv t ((mv t) + 1), w + (-1), s + 1)) := Or.inr ⟨hc2, Or.inr ⟨hc10, τ15, ht16, Or.inr (Or.inr ⟨hc17, t, ht4, het, by simp only [if_neg hc19]⟩)⟩⟩
              refine ih (i + 1) (by omega) _ _ _ _ _ _ F22 G23 (fun k a1 a2 a3 a4 => ?_) (fun σ9 h9 v9 hL F9 G9 fz => hq σ9 h9 v9 ⟨_, hst, hL⟩ F9 G9 (am_f2T fz (am_f2U (by omega) (am_f2U (by omega) (am_f2T (am_f2C fz11) (am_f2T (am_f2B fz5) (am_f2U (by omega) am_f20)))))))
              rcases hst with ⟨-, e9⟩ | ⟨-, e9⟩
              · exact (congrArg (fun z => z.1 k) e9).trans (hkp k a1 a2 a3 a4)
              · exact (let_keep a1 a2 (fun z => a3 i z) (fun z => a4 i z) e9).trans (hkp k a1 a2 a3 a4)
            · refine aw_iconst (npc := 123) (v := -1) (by decide) dX0_writeLetters_122 rfl ?_
              refine aw_goto (npc := 127) dX0_writeLetters_123 (by decide) ?_
              refine aw_iadd (npc := 128) dX0_writeLetters_127 rfl ?_
              refine aw_iast (npc := 129) (j := t) dX0_writeLetters_128 rfl F12.2.2.2.2.2.2.2.2.2.2.2 (am_ix_nI (by omega)) (by rw [tl_len]; omega) rfl ?_
              have F24 := qr_moves (j := t) (v := (mv t) + (-1)) F12
              have G25 := tt_out (k := b + 11) (c := .inl (0, (tl 4 mv).set t ((mv t) + (-1)))) (by omega) G13
              refine aw_aload_n (npc := 130) rfl dX0_writeLetters_129 rfl ?_
              refine aw_get (npc := 133) dX0_writeLetters_130 rfl kf_X0_55 F24.1 rfl ?_
              refine aw_iload (npc := 135) rfl dX0_writeLetters_133 rfl ?_
              refine aw_dup2 (npc := 136) rfl rfl dX0_writeLetters_135 rfl ?_
              refine aw_iald (npc := 137) (x := (drawN (sentN N i)) (26 + 5 * i)) (j := i) dX0_writeLetters_136 rfl F24.2.2.2.2.2.2.2.2.1 (am_ix_nI (by omega)) (tl_at (by omega)) ?_
              refine aw_iconst (npc := 138) (v := 1) (by decide) dX0_writeLetters_137 rfl ?_
              refine aw_iadd (npc := 139) dX0_writeLetters_138 rfl ?_
              refine aw_iast (npc := 140) (j := i) dX0_writeLetters_139 rfl F24.2.2.2.2.2.2.2.2.1 (am_ix_nI (by omega)) (by rw [tl_len]; omega) rfl ?_
              have F26 := qr_yield (j := i) (v := ((drawN (sentN N i)) (26 + 5 * i)) + 1) F24 (by omega)
              have G27 := tt_out (k := b + 8) (c := .inl (0, (tl 8 (fun z9 => (drawN (sentN N i)) (26 + 5 * z9))).set i (((drawN (sentN N i)) (26 + 5 * i)) + 1))) (by omega) G25
              refine aw_iinc (npc := 143) (v := w + (-1)) (L' := [some (.ref b), some (.int wo), some (.int (w + (-1))), some (.int s), some (.int (nI i)), some (.int (nI t))]) dX0_writeLetters_140 rfl rfl rfl (by decide) rfl rfl ?_
              refine aw_iinc (npc := 146) (v := s + 1) (L' := [some (.ref b), some (.int wo), some (.int (w + (-1))), some (.int (s + 1)), some (.int (nI i)), some (.int (nI t))]) dX0_writeLetters_143 rfl rfl rfl (by decide) rfl rfl ?_
              refine aw_iinc (npc := 149) (v := nI (i + 1)) (L' := [some (.ref b), some (.int wo), some (.int (w + (-1))), some (.int (s + 1)), some (.int (nI (i + 1))), some (.int (nI t))]) dX0_writeLetters_146 rfl rfl (nI_1 _) (by decide) rfl rfl ?_
              refine aw_goto (npc := 15) dX0_writeLetters_149 (by decide) ?_
              have hst : (nI i = wo ∧ ((upd (drawN (sentN N i)) (26 + 5 * i) (((drawN (sentN N i)) (26 + 5 * i)) + 1), upd mv t ((mv t) + (-1)), w + (-1), s + 1) : (Nat → Int32) × (Nat → Int32) × Int32 × Int32) = (N, mv, w, s)) ∨ (¬ nI i = wo ∧ letR tb tx lk i (N, mv, w, s) (upd (drawN (sentN N i)) (26 + 5 * i) (((drawN (sentN N i)) (26 + 5 * i)) + 1), upd mv t ((mv t) + (-1)), w + (-1), s + 1)) := Or.inr ⟨hc2, Or.inr ⟨hc10, τ15, ht16, Or.inr (Or.inr ⟨hc17, t, ht4, het, by simp only [if_pos hc19]⟩)⟩⟩
              refine ih (i + 1) (by omega) _ _ _ _ _ _ F26 G27 (fun k a1 a2 a3 a4 => ?_) (fun σ9 h9 v9 hL F9 G9 fz => hq σ9 h9 v9 ⟨_, hst, hL⟩ F9 G9 (am_f2T fz (am_f2U (by omega) (am_f2U (by omega) (am_f2T (am_f2C fz11) (am_f2T (am_f2B fz5) (am_f2U (by omega) am_f20)))))))
              rcases hst with ⟨-, e9⟩ | ⟨-, e9⟩
              · exact (congrArg (fun z => z.1 k) e9).trans (hkp k a1 a2 a3 a4)
              · exact (let_keep a1 a2 (fun z => a3 i z) (fun z => a4 i z) e9).trans (hkp k a1 a2 a3 a4)
          · refine aw_re (S' := [.int 0]) rfl ?_
            refine aw_if_eq (npc := 104) (tgt := 146) dX0_writeLetters_101 rfl (by decide) (fun _ => ?_) (fun hc => absurd (by decide) hc)
            refine aw_iinc (npc := 149) (v := nI (i + 1)) (L' := [some (.ref b), some (.int wo), some (.int w), some (.int s), some (.int (nI (i + 1))), some (.int (ty (drawN (sentN N i)) i))]) dX0_writeLetters_146 rfl rfl (nI_1 _) (by decide) rfl rfl ?_
            refine aw_goto (npc := 15) dX0_writeLetters_149 (by decide) ?_
            have hst : (nI i = wo ∧ ((drawN (sentN N i), mv, w, s) : (Nat → Int32) × (Nat → Int32) × Int32 × Int32) = (N, mv, w, s)) ∨ (¬ nI i = wo ∧ letR tb tx lk i (N, mv, w, s) (drawN (sentN N i), mv, w, s)) := Or.inr ⟨hc2, Or.inr ⟨hc10, τ15, ht16, Or.inr (Or.inl ⟨hc17, hw18, rfl⟩)⟩⟩
            refine ih (i + 1) (by omega) _ _ _ _ _ _ F12 G13 (fun k a1 a2 a3 a4 => ?_) (fun σ9 h9 v9 hL F9 G9 fz => hq σ9 h9 v9 ⟨_, hst, hL⟩ F9 G9 (am_f2T fz (am_f2T (am_f2C fz11) (am_f2T (am_f2B fz5) (am_f2U (by omega) am_f20)))))
            rcases hst with ⟨-, e9⟩ | ⟨-, e9⟩
            · exact (congrArg (fun z => z.1 k) e9).trans (hkp k a1 a2 a3 a4)
            · exact (let_keep a1 a2 (fun z => a3 i z) (fun z => a4 i z) e9).trans (hkp k a1 a2 a3 a4)
        · refine aw_iinc (npc := 85) (v := w + 5) (L' := [some (.ref b), some (.int wo), some (.int (w + 5)), some (.int s), some (.int (nI i)), v5]) dX0_writeLetters_82 rfl rfl rfl (by decide) rfl rfl ?_
          refine aw_goto (npc := 146) dX0_writeLetters_85 (by decide) ?_
          refine aw_iinc (npc := 149) (v := nI (i + 1)) (L' := [some (.ref b), some (.int wo), some (.int (w + 5)), some (.int s), some (.int (nI (i + 1))), v5]) dX0_writeLetters_146 rfl rfl (nI_1 _) (by decide) rfl rfl ?_
          refine aw_goto (npc := 15) dX0_writeLetters_149 (by decide) ?_
          have hst : (nI i = wo ∧ ((drawN (sentN N i), mv, w + 5, s) : (Nat → Int32) × (Nat → Int32) × Int32 × Int32) = (N, mv, w, s)) ∨ (¬ nI i = wo ∧ letR tb tx lk i (N, mv, w, s) (drawN (sentN N i), mv, w + 5, s)) := Or.inr ⟨hc2, Or.inr ⟨hc10, τ15, ht16, Or.inl ⟨hc17, rfl⟩⟩⟩
          refine ih (i + 1) (by omega) _ _ _ _ _ _ F12 G13 (fun k a1 a2 a3 a4 => ?_) (fun σ9 h9 v9 hL F9 G9 fz => hq σ9 h9 v9 ⟨_, hst, hL⟩ F9 G9 (am_f2T fz (am_f2T (am_f2C fz11) (am_f2T (am_f2B fz5) (am_f2U (by omega) am_f20)))))
          rcases hst with ⟨-, e9⟩ | ⟨-, e9⟩
          · exact (congrArg (fun z => z.1 k) e9).trans (hkp k a1 a2 a3 a4)
          · exact (let_keep a1 a2 (fun z => a3 i z) (fun z => a4 i z) e9).trans (hkp k a1 a2 a3 a4)
      · refine aw_aload_n (npc := 59) rfl dX0_writeLetters_58 rfl ?_
        refine aw_dup (npc := 60) rfl dX0_writeLetters_59 rfl ?_
        refine aw_get (npc := 63) dX0_writeLetters_60 rfl kf_X0_31 F9.1 rfl ?_
        refine aw_iconst (npc := 64) (v := 1) (by decide) dX0_writeLetters_63 rfl ?_
        refine aw_iadd (npc := 65) dX0_writeLetters_64 rfl ?_
        refine aw_put (npc := 68) dX0_writeLetters_65 rfl kf_X0_31 F9.1 (Nat.le_of_ble_eq_true rfl) (am_ok_int _) rfl ?_
        have F28 := qr_lost (v := ((drawN (sentN N i)) 6) + 1) F9
        have G29 := tt_out (k := b) (c := .inr (0, (QO b (drawN (sentN N i))).set 6 (.int (((drawN (sentN N i)) 6) + 1)))) (by omega) G8
        refine aw_goto (npc := 146) dX0_writeLetters_68 (by decide) ?_
        refine aw_iinc (npc := 149) (v := nI (i + 1)) (L' := [some (.ref b), some (.int wo), some (.int w), some (.int s), some (.int (nI (i + 1))), v5]) dX0_writeLetters_146 rfl rfl (nI_1 _) (by decide) rfl rfl ?_
        refine aw_goto (npc := 15) dX0_writeLetters_149 (by decide) ?_
        have hst : (nI i = wo ∧ ((upd (drawN (sentN N i)) 6 (((drawN (sentN N i)) 6) + 1), mv, w, s) : (Nat → Int32) × (Nat → Int32) × Int32 × Int32) = (N, mv, w, s)) ∨ (¬ nI i = wo ∧ letR tb tx lk i (N, mv, w, s) (upd (drawN (sentN N i)) 6 (((drawN (sentN N i)) 6) + 1), mv, w, s)) := Or.inr ⟨hc2, Or.inl ⟨hc10, rfl⟩⟩
        refine ih (i + 1) (by omega) _ _ _ _ _ _ F28 G29 (fun k a1 a2 a3 a4 => ?_) (fun σ9 h9 v9 hL F9 G9 fz => hq σ9 h9 v9 ⟨_, hst, hL⟩ F9 G9 (am_f2T fz (am_f2U (by omega) (am_f2T (am_f2B fz5) (am_f2U (by omega) am_f20)))))
        rcases hst with ⟨-, e9⟩ | ⟨-, e9⟩
        · exact (congrArg (fun z => z.1 k) e9).trans (hkp k a1 a2 a3 a4)
        · exact (let_keep a1 a2 (fun z => a3 i z) (fun z => a4 i z) e9).trans (hkp k a1 a2 a3 a4)
    · refine aw_goto (npc := 146) dX0_writeLetters_30 (by decide) ?_
      refine aw_iinc (npc := 149) (v := nI (i + 1)) (L' := [some (.ref b), some (.int wo), some (.int w), some (.int s), some (.int (nI (i + 1))), v5]) dX0_writeLetters_146 rfl rfl (nI_1 _) (by decide) rfl rfl ?_
      refine aw_goto (npc := 15) dX0_writeLetters_149 (by decide) ?_
      have hst : (nI i = wo ∧ ((N, mv, w, s) : (Nat → Int32) × (Nat → Int32) × Int32 × Int32) = (N, mv, w, s)) ∨ (¬ nI i = wo ∧ letR tb tx lk i (N, mv, w, s) (N, mv, w, s)) := Or.inl ⟨hc2, rfl⟩
      refine ih (i + 1) (by omega) _ _ _ _ _ _ F G (fun k a1 a2 a3 a4 => ?_) (fun σ9 h9 v9 hL F9 G9 fz => hq σ9 h9 v9 ⟨_, hst, hL⟩ F9 G9 (am_f2T fz am_f20))
      rcases hst with ⟨-, e9⟩ | ⟨-, e9⟩
      · exact (congrArg (fun z => z.1 k) e9).trans (hkp k a1 a2 a3 a4)
      · exact (let_keep a1 a2 (fun z => a3 i z) (fun z => a4 i z) e9).trans (hkp k a1 a2 a3 a4)
def endN (σ : (Nat → Int32) × (Nat → Int32) × Int32 × Int32) : Nat → Int32 := upd (upd (upd (upd (upd σ.1 (8 + 1 * 0) (hw (σ.1 8 + σ.2.1 0) 9)) (8 + 1 * 1) (hw (σ.1 9 + σ.2.1 1) 9)) (8 + 1 * 2) (hw (σ.1 10 + σ.2.1 2) 9)) (8 + 1 * 3) (hw (σ.1 11 + σ.2.1 3) 9)) 3 (hw (σ.1 3 + σ.2.2.1) 99)
def postR (fr : Nat) (tb : TB) (tx : List Value) (lk : Nat → Int32) (wo : Int32) (N N' : Nat → Int32) (s : Int32) : Prop := ∃ σ, LSr tb tx lk wo fr 0 (N, (fun _ => 0), 0, 0) σ ∧ N' = endN σ ∧ s = σ.2.2.2
theorem ls_keep {tb : TB} {tx : List Value} {lk : Nat → Int32} {wo : Int32} {k : Nat} (hk0 : k ≠ 0) (hk6 : k ≠ 6) (hk1 : ∀ f, k ≠ 25 + 5 * f) (hk2 : ∀ f, k ≠ 26 + 5 * f) : ∀ {m i : Nat} {σ σ' : (Nat → Int32) × (Nat → Int32) × Int32 × Int32}, LSr tb tx lk wo m i σ σ' → σ'.1 k = σ.1 k
  | 0, _, _, _, h => by rw [show _ = _ from h]
  | m + 1, i, σ, σ', h => by
    obtain ⟨σ1, h1, h2⟩ := h
    refine (ls_keep hk0 hk6 hk1 hk2 h2).trans ?_
    rcases h1 with ⟨-, rfl⟩ | ⟨-, h1⟩
    · rfl
    · exact let_keep hk0 hk6 (hk1 i) (hk2 i) h1
def keepK (k : Nat) : Prop := k ≠ 0 ∧ k ≠ 6 ∧ k ≠ 3 ∧ (k < 8 ∨ 12 ≤ k) ∧ (∀ f, k ≠ 25 + 5 * f) ∧ (∀ f, k ≠ 26 + 5 * f)
theorem post_keep {fr : Nat} {tb : TB} {tx : List Value} {lk : Nat → Int32} {wo s : Int32} {N N' : Nat → Int32} {k : Nat} (hk : keepK k) (h : postR fr tb tx lk wo N N' s) : N' k = N k := by
  obtain ⟨σ, h1, rfl, -⟩ := h
  obtain ⟨a1, a2, a3, a4, a5, a6⟩ := hk
  refine Eq.trans ?_ (ls_keep a1 a2 a5 a6 h1)
  unfold endN
  rw [pk_un (by omega), pk_un (by omega), pk_un (by omega), pk_un (by omega), pk_un (by omega)]
def runR (fr : Nat) (tb : TB) (tx : List Value) (lk : Nat → Int32) (wo : Int32) : Nat → (Nat → Int32) → Int32 → (Nat → Int32) → Int32 → Prop
  | 0, N, s, N', s' => N' = N ∧ s' = s
  | m + 1, N, s, N', s' => ((peace N ∨ duel N) ∧ N' = N ∧ s' = s) ∨ (¬ peace N ∧ ¬ duel N ∧ ∃ N1 s1, postR fr tb tx lk wo N N1 s1 ∧ runR fr tb tx lk wo m N1 (s + s1) N' s')
theorem run_keep {fr : Nat} {tb : TB} {tx : List Value} {lk : Nat → Int32} {wo : Int32} {k : Nat} (hk : keepK k) : ∀ {m : Nat} {N N' : Nat → Int32} {s s' : Int32}, runR fr tb tx lk wo m N s N' s' → N' k = N k
  | 0, _, _, _, _, h => by rw [h.1]
  | m + 1, N, N', s, s', h => by
    rcases h with ⟨-, rfl, -⟩ | ⟨-, -, N1, s1, h1, h2⟩
    · rfl
    · exact (run_keep hk h2).trans (post_keep hk h1)
set_option maxHeartbeats 4000000 in
set_option maxRecDepth 100000 in
theorem g_write {X : List Int32} {d rc rs n : Nat} {Q : am_Q} {b : Nat} {N : Nat → Int32} {tx : List Value} {lk mv : Nat → Int32} {h : am_H} {fr c : Nat} {wo : Int32} {tb : TB} (F : QR b N tx lk mv h) (G : TT tb h) (hF : N 1 = nI fr) (hfr : fr ≤ 8) (hc7 : N 7 = nI c) (hv : TXv tb.1 c tx) (hK : WK N) (hb : b + 12 ≤ 92) (hq : ∀ N9 s9 mv9 h9, postR fr tb tx lk wo N N9 s9 → QR b N9 tx lk mv9 h9 → TT tb h9 → am_f2 b h9 h → Q (some (.int s9)) n h9) : AW X mX0_writeLetters (d + 12) rc rs 0 [some (.ref b), some (.int wo), none, none, none, none] [] n h Q := by
  refine aw_aload_n (npc := 1) rfl dX0_writeLetters_0 rfl ?_
  refine aw_get (npc := 4) dX0_writeLetters_1 rfl kf_X0_70 F.1 rfl ?_
  refine aw_iconst (npc := 5) (v := 0) (by decide) dX0_writeLetters_4 rfl ?_
  refine aw_callS (npc := 8) (N := mJ7_fill_53178) (mc := 0) (ms := 0) (A := [.ref (b + 11), .int 0]) (S := []) (L0 := [some (.ref (b + 11)), some (.int 0), none, none]) dX0_writeLetters_5 rfl km_J7_fill_53178 kk_X0_127 rfl ⟨rfl, by decide⟩ rfl (Nat.le_of_ble_eq_true rfl) (Nat.zero_add _) (Nat.zero_add _) rfl ?_
  refine aw_iconst (npc := 1) (v := 0) (by decide) dJ7_fill_53178_0 rfl ?_
  refine aw_istore_n (npc := 2) (L' := [some (.ref (b + 11)), some (.int 0), some (.int 0), none]) dJ7_fill_53178_1 rfl (by decide) rfl rfl ?_
  refine aw_aload_n (npc := 3) rfl dJ7_fill_53178_2 rfl ?_
  refine aw_alen (npc := 4) (v := 4) dJ7_fill_53178_3 rfl F.2.2.2.2.2.2.2.2.2.2.2 (by rw [tl_len]; rfl) ?_
  refine aw_istore_n (npc := 5) (L' := [some (.ref (b + 11)), some (.int 0), some (.int 0), some (.int 4)]) dJ7_fill_53178_4 rfl (by decide) rfl rfl ?_
  refine aw_iload_n (npc := 6) rfl dJ7_fill_53178_5 rfl ?_
  refine aw_iload_n (npc := 7) rfl dJ7_fill_53178_6 rfl ?_
  refine aw_icmp_ge (npc := 10) (tgt := 20) dJ7_fill_53178_7 rfl (by decide) (fun hc => absurd hc (by decide)) (fun _ => ?_)
  refine aw_aload_n (npc := 11) rfl dJ7_fill_53178_10 rfl ?_
  refine aw_iload_n (npc := 12) rfl dJ7_fill_53178_11 rfl ?_
  refine aw_iload_n (npc := 13) rfl dJ7_fill_53178_12 rfl ?_
  refine aw_iast (npc := 14) (j := 0) dJ7_fill_53178_13 rfl F.2.2.2.2.2.2.2.2.2.2.2 ⟨by decide, by decide⟩ (by rw [tl_len]; omega) rfl ?_
  have F1 := qr_moves (j := 0) (v := 0) F
  have G2 := tt_out (k := b + 11) (c := .inl (0, (tl 4 mv).set 0 0)) (by omega) G
  refine aw_iinc (npc := 17) (v := 1) (L' := [some (.ref (b + 11)), some (.int 0), some (.int 1), some (.int 4)]) dJ7_fill_53178_14 rfl rfl (by decide) (by decide) rfl rfl ?_
  refine aw_goto (npc := 5) dJ7_fill_53178_17 (by decide) ?_
  refine aw_iload_n (npc := 6) rfl dJ7_fill_53178_5 rfl ?_
  refine aw_iload_n (npc := 7) rfl dJ7_fill_53178_6 rfl ?_
  refine aw_icmp_ge (npc := 10) (tgt := 20) dJ7_fill_53178_7 rfl (by decide) (fun hc => absurd hc (by decide)) (fun _ => ?_)
  refine aw_aload_n (npc := 11) rfl dJ7_fill_53178_10 rfl ?_
  refine aw_iload_n (npc := 12) rfl dJ7_fill_53178_11 rfl ?_
  refine aw_iload_n (npc := 13) rfl dJ7_fill_53178_12 rfl ?_
  refine aw_iast (npc := 14) (j := 1) dJ7_fill_53178_13 rfl F1.2.2.2.2.2.2.2.2.2.2.2 ⟨by decide, by decide⟩ (by rw [tl_len]; omega) rfl ?_
  have F3 := qr_moves (j := 1) (v := 0) F1
  have G4 := tt_out (k := b + 11) (c := .inl (0, (tl 4 (upd mv 0 0)).set 1 0)) (by omega) G2
  refine aw_iinc (npc := 17) (v := 2) (L' := [some (.ref (b + 11)), some (.int 0), some (.int 2), some (.int 4)]) dJ7_fill_53178_14 rfl rfl (by decide) (by decide) rfl rfl ?_
  refine aw_goto (npc := 5) dJ7_fill_53178_17 (by decide) ?_
  refine aw_iload_n (npc := 6) rfl dJ7_fill_53178_5 rfl ?_
  refine aw_iload_n (npc := 7) rfl dJ7_fill_53178_6 rfl ?_
  refine aw_icmp_ge (npc := 10) (tgt := 20) dJ7_fill_53178_7 rfl (by decide) (fun hc => absurd hc (by decide)) (fun _ => ?_)
  refine aw_aload_n (npc := 11) rfl dJ7_fill_53178_10 rfl ?_
  refine aw_iload_n (npc := 12) rfl dJ7_fill_53178_11 rfl ?_
  refine aw_iload_n (npc := 13) rfl dJ7_fill_53178_12 rfl ?_
  refine aw_iast (npc := 14) (j := 2) dJ7_fill_53178_13 rfl F3.2.2.2.2.2.2.2.2.2.2.2 ⟨by decide, by decide⟩ (by rw [tl_len]; omega) rfl ?_
  have F5 := qr_moves (j := 2) (v := 0) F3
  have G6 := tt_out (k := b + 11) (c := .inl (0, (tl 4 (upd (upd mv 0 0) 1 0)).set 2 0)) (by omega) G4
  refine aw_iinc (npc := 17) (v := 3) (L' := [some (.ref (b + 11)), some (.int 0), some (.int 3), some (.int 4)]) dJ7_fill_53178_14 rfl rfl (by decide) (by decide) rfl rfl ?_
  refine aw_goto (npc := 5) dJ7_fill_53178_17 (by decide) ?_
  refine aw_iload_n (npc := 6) rfl dJ7_fill_53178_5 rfl ?_
  refine aw_iload_n (npc := 7) rfl dJ7_fill_53178_6 rfl ?_
  refine aw_icmp_ge (npc := 10) (tgt := 20) dJ7_fill_53178_7 rfl (by decide) (fun hc => absurd hc (by decide)) (fun _ => ?_)
  refine aw_aload_n (npc := 11) rfl dJ7_fill_53178_10 rfl ?_
  refine aw_iload_n (npc := 12) rfl dJ7_fill_53178_11 rfl ?_
  refine aw_iload_n (npc := 13) rfl dJ7_fill_53178_12 rfl ?_
  refine aw_iast (npc := 14) (j := 3) dJ7_fill_53178_13 rfl F5.2.2.2.2.2.2.2.2.2.2.2 ⟨by decide, by decide⟩ (by rw [tl_len]; omega) rfl ?_
  have F7 := qr_moves (j := 3) (v := 0) F5
  have G8 := tt_out (k := b + 11) (c := .inl (0, (tl 4 (upd (upd (upd mv 0 0) 1 0) 2 0)).set 3 0)) (by omega) G6
  refine aw_iinc (npc := 17) (v := 4) (L' := [some (.ref (b + 11)), some (.int 0), some (.int 4), some (.int 4)]) dJ7_fill_53178_14 rfl rfl (by decide) (by decide) rfl rfl ?_
  refine aw_goto (npc := 5) dJ7_fill_53178_17 (by decide) ?_
  refine aw_iload_n (npc := 6) rfl dJ7_fill_53178_5 rfl ?_
  refine aw_iload_n (npc := 7) rfl dJ7_fill_53178_6 rfl ?_
  refine aw_icmp_ge (npc := 10) (tgt := 20) dJ7_fill_53178_7 rfl (by decide) (fun _ => ?_) (fun hc => absurd (by decide) hc)
  refine aw_vret rfl dJ7_fill_53178_20 ?_
  refine aw_iconst (npc := 9) (v := 0) (by decide) dX0_writeLetters_8 rfl ?_
  refine aw_istore_n (npc := 10) (L' := [some (.ref b), some (.int wo), some (.int 0), none, none, none]) dX0_writeLetters_9 rfl (by decide) rfl rfl ?_
  refine aw_iconst (npc := 11) (v := 0) (by decide) dX0_writeLetters_10 rfl ?_
  refine aw_istore_n (npc := 12) (L' := [some (.ref b), some (.int wo), some (.int 0), some (.int 0), none, none]) dX0_writeLetters_11 rfl (by decide) rfl rfl ?_
  refine aw_iconst (npc := 13) (v := 0) (by decide) dX0_writeLetters_12 rfl ?_
  refine aw_istore (npc := 15) (L' := [some (.ref b), some (.int wo), some (.int 0), some (.int 0), some (.int 0), none]) dX0_writeLetters_13 rfl (by decide) rfl rfl ?_
  have F9 := qr_mv (mv' := fun _ => 0) (fun i hi => by rcases (show i = 0 ∨ i = 1 ∨ i = 2 ∨ i = 3 by omega) with rfl | rfl | rfl | rfl <;> rfl) F7
  refine aw_locs (L' := [some (.ref b), some (.int wo), some (.int 0), some (.int 0), some (.int (nI 0)), none]) rfl ?_
  refine g_letL hF hfr hc7 hv hK hb fr 0 (by omega) N (fun _ => 0) 0 0 none _ F9 G8 (fun _ _ _ _ _ => rfl) (fun σ h9 v9 hL F9 G9 fz => ?_)
  refine aw_iconst (npc := 153) (v := 0) (by decide) dX0_writeLetters_152 rfl ?_
  refine aw_istore (npc := 155) (L' := [some (.ref b), some (.int wo), some (.int σ.2.2.1), some (.int σ.2.2.2), some (.int 0), v9]) dX0_writeLetters_153 rfl (by decide) rfl rfl ?_
  refine aw_iload (npc := 157) rfl dX0_writeLetters_155 rfl ?_
  refine aw_iconst (npc := 158) (v := 4) (by decide) dX0_writeLetters_157 rfl ?_
  refine aw_icmp_ge (npc := 161) (tgt := 194) dX0_writeLetters_158 rfl (by decide) (fun hc => absurd hc (by decide)) (fun _ => ?_)
  refine aw_aload_n (npc := 162) rfl dX0_writeLetters_161 rfl ?_
  refine aw_get (npc := 165) dX0_writeLetters_162 rfl kf_X0_9 F9.1 rfl ?_
  refine aw_iload (npc := 167) rfl dX0_writeLetters_165 rfl ?_
  refine aw_aload_n (npc := 168) rfl dX0_writeLetters_167 rfl ?_
  refine aw_get (npc := 171) dX0_writeLetters_168 rfl kf_X0_9 F9.1 rfl ?_
  refine aw_iload (npc := 173) rfl dX0_writeLetters_171 rfl ?_
  refine aw_iald (npc := 174) (x := σ.1 8) (j := 0) dX0_writeLetters_173 rfl F9.2.1 ⟨by decide, by decide⟩ (tl_at (by omega)) ?_
  refine aw_aload_n (npc := 175) rfl dX0_writeLetters_174 rfl ?_
  refine aw_get (npc := 178) dX0_writeLetters_175 rfl kf_X0_70 F9.1 rfl ?_
  refine aw_iload (npc := 180) rfl dX0_writeLetters_178 rfl ?_
  refine aw_iald (npc := 181) (x := σ.2.1 0) (j := 0) dX0_writeLetters_180 rfl F9.2.2.2.2.2.2.2.2.2.2.2 ⟨by decide, by decide⟩ (tl_at (by omega)) ?_
  refine aw_iadd (npc := 182) dX0_writeLetters_181 rfl ?_
  refine aw_bipush (npc := 184) (v := 9) (by decide) dX0_writeLetters_182 rfl ?_
  refine aw_callSN (npc := 187) (N := mX7_heldWithin) (mc := 0) (ms := 0) (A := [.int ((σ.1 8) + (σ.2.1 0)), .int 9]) (S := [.int 0, .ref (b + 1)]) (L0 := [some (.int ((σ.1 8) + (σ.2.1 0))), some (.int 9)]) dX0_writeLetters_184 rfl km_X7_heldWithin kk_X0_114 rfl ⟨rfl, by decide⟩ rfl (Nat.le_of_ble_eq_true rfl) (Nat.zero_add _) (Nat.zero_add _) rfl ?_
  refine g_held ?_
  refine aw_re (S' := [.int (hw ((σ.1 8) + (σ.2.1 0)) 9), .int 0, .ref (b + 1)]) rfl ?_
  refine aw_iast (npc := 188) (j := 0) dX0_writeLetters_187 rfl F9.2.1 ⟨by decide, by decide⟩ (by rw [tl_len]; omega) rfl ?_
  have F10 := qr_stand (j := 0) (v := hw ((σ.1 8) + (σ.2.1 0)) 9) F9 (by omega)
  have G11 := tt_out (k := b + 1) (c := .inl (0, (tl 4 (fun z9 => σ.1 (8 + 1 * z9))).set 0 (hw ((σ.1 8) + (σ.2.1 0)) 9))) (by omega) G9
  refine aw_iinc (npc := 191) (v := 1) (L' := [some (.ref b), some (.int wo), some (.int σ.2.2.1), some (.int σ.2.2.2), some (.int 1), v9]) dX0_writeLetters_188 rfl rfl (by decide) (by decide) rfl rfl ?_
  refine aw_goto (npc := 155) dX0_writeLetters_191 (by decide) ?_
  refine aw_iload (npc := 157) rfl dX0_writeLetters_155 rfl ?_
  refine aw_iconst (npc := 158) (v := 4) (by decide) dX0_writeLetters_157 rfl ?_
  refine aw_icmp_ge (npc := 161) (tgt := 194) dX0_writeLetters_158 rfl (by decide) (fun hc => absurd hc (by decide)) (fun _ => ?_)
  refine aw_aload_n (npc := 162) rfl dX0_writeLetters_161 rfl ?_
  refine aw_get (npc := 165) dX0_writeLetters_162 rfl kf_X0_9 F10.1 rfl ?_
  refine aw_iload (npc := 167) rfl dX0_writeLetters_165 rfl ?_
  refine aw_aload_n (npc := 168) rfl dX0_writeLetters_167 rfl ?_
  refine aw_get (npc := 171) dX0_writeLetters_168 rfl kf_X0_9 F10.1 rfl ?_
  refine aw_iload (npc := 173) rfl dX0_writeLetters_171 rfl ?_
  refine aw_iald (npc := 174) (x := (upd σ.1 (8 + 1 * 0) (hw ((σ.1 8) + (σ.2.1 0)) 9)) 9) (j := 1) dX0_writeLetters_173 rfl F10.2.1 ⟨by decide, by decide⟩ (tl_at (by omega)) ?_
  refine aw_top (y := σ.1 9) ((pk_un (by omega))) ?_
  refine aw_aload_n (npc := 175) rfl dX0_writeLetters_174 rfl ?_
  refine aw_get (npc := 178) dX0_writeLetters_175 rfl kf_X0_70 F10.1 rfl ?_
  refine aw_iload (npc := 180) rfl dX0_writeLetters_178 rfl ?_
  refine aw_iald (npc := 181) (x := σ.2.1 1) (j := 1) dX0_writeLetters_180 rfl F10.2.2.2.2.2.2.2.2.2.2.2 ⟨by decide, by decide⟩ (tl_at (by omega)) ?_
  refine aw_iadd (npc := 182) dX0_writeLetters_181 rfl ?_
  refine aw_bipush (npc := 184) (v := 9) (by decide) dX0_writeLetters_182 rfl ?_
  refine aw_callSN (npc := 187) (N := mX7_heldWithin) (mc := 0) (ms := 0) (A := [.int ((σ.1 9) + (σ.2.1 1)), .int 9]) (S := [.int 1, .ref (b + 1)]) (L0 := [some (.int ((σ.1 9) + (σ.2.1 1))), some (.int 9)]) dX0_writeLetters_184 rfl km_X7_heldWithin kk_X0_114 rfl ⟨rfl, by decide⟩ rfl (Nat.le_of_ble_eq_true rfl) (Nat.zero_add _) (Nat.zero_add _) rfl ?_
  refine g_held ?_
  refine aw_re (S' := [.int (hw ((σ.1 9) + (σ.2.1 1)) 9), .int 1, .ref (b + 1)]) rfl ?_
  refine aw_iast (npc := 188) (j := 1) dX0_writeLetters_187 rfl F10.2.1 ⟨by decide, by decide⟩ (by rw [tl_len]; omega) rfl ?_
  have F12 := qr_stand (j := 1) (v := hw ((σ.1 9) + (σ.2.1 1)) 9) F10 (by omega)
  have G13 := tt_out (k := b + 1) (c := .inl (0, (tl 4 (fun z9 => (upd σ.1 (8 + 1 * 0) (hw ((σ.1 8) + (σ.2.1 0)) 9)) (8 + 1 * z9))).set 1 (hw ((σ.1 9) + (σ.2.1 1)) 9))) (by omega) G11
  refine aw_iinc (npc := 191) (v := 2) (L' := [some (.ref b), some (.int wo), some (.int σ.2.2.1), some (.int σ.2.2.2), some (.int 2), v9]) dX0_writeLetters_188 rfl rfl (by decide) (by decide) rfl rfl ?_
  refine aw_goto (npc := 155) dX0_writeLetters_191 (by decide) ?_
  refine aw_iload (npc := 157) rfl dX0_writeLetters_155 rfl ?_
  refine aw_iconst (npc := 158) (v := 4) (by decide) dX0_writeLetters_157 rfl ?_
  refine aw_icmp_ge (npc := 161) (tgt := 194) dX0_writeLetters_158 rfl (by decide) (fun hc => absurd hc (by decide)) (fun _ => ?_)
  refine aw_aload_n (npc := 162) rfl dX0_writeLetters_161 rfl ?_
  refine aw_get (npc := 165) dX0_writeLetters_162 rfl kf_X0_9 F12.1 rfl ?_
  refine aw_iload (npc := 167) rfl dX0_writeLetters_165 rfl ?_
  refine aw_aload_n (npc := 168) rfl dX0_writeLetters_167 rfl ?_
  refine aw_get (npc := 171) dX0_writeLetters_168 rfl kf_X0_9 F12.1 rfl ?_
  refine aw_iload (npc := 173) rfl dX0_writeLetters_171 rfl ?_
  refine aw_iald (npc := 174) (x := (upd (upd σ.1 (8 + 1 * 0) (hw ((σ.1 8) + (σ.2.1 0)) 9)) (8 + 1 * 1) (hw ((σ.1 9) + (σ.2.1 1)) 9)) 10) (j := 2) dX0_writeLetters_173 rfl F12.2.1 ⟨by decide, by decide⟩ (tl_at (by omega)) ?_
  refine aw_top (y := σ.1 10) (((pk_un (by omega))).trans (pk_un (by omega))) ?_
  refine aw_aload_n (npc := 175) rfl dX0_writeLetters_174 rfl ?_
  refine aw_get (npc := 178) dX0_writeLetters_175 rfl kf_X0_70 F12.1 rfl ?_
  refine aw_iload (npc := 180) rfl dX0_writeLetters_178 rfl ?_
  refine aw_iald (npc := 181) (x := σ.2.1 2) (j := 2) dX0_writeLetters_180 rfl F12.2.2.2.2.2.2.2.2.2.2.2 ⟨by decide, by decide⟩ (tl_at (by omega)) ?_
  refine aw_iadd (npc := 182) dX0_writeLetters_181 rfl ?_
  refine aw_bipush (npc := 184) (v := 9) (by decide) dX0_writeLetters_182 rfl ?_
  refine aw_callSN (npc := 187) (N := mX7_heldWithin) (mc := 0) (ms := 0) (A := [.int ((σ.1 10) + (σ.2.1 2)), .int 9]) (S := [.int 2, .ref (b + 1)]) (L0 := [some (.int ((σ.1 10) + (σ.2.1 2))), some (.int 9)]) dX0_writeLetters_184 rfl km_X7_heldWithin kk_X0_114 rfl ⟨rfl, by decide⟩ rfl (Nat.le_of_ble_eq_true rfl) (Nat.zero_add _) (Nat.zero_add _) rfl ?_
  refine g_held ?_
  refine aw_re (S' := [.int (hw ((σ.1 10) + (σ.2.1 2)) 9), .int 2, .ref (b + 1)]) rfl ?_
  refine aw_iast (npc := 188) (j := 2) dX0_writeLetters_187 rfl F12.2.1 ⟨by decide, by decide⟩ (by rw [tl_len]; omega) rfl ?_
  have F14 := qr_stand (j := 2) (v := hw ((σ.1 10) + (σ.2.1 2)) 9) F12 (by omega)
  have G15 := tt_out (k := b + 1) (c := .inl (0, (tl 4 (fun z9 => (upd (upd σ.1 (8 + 1 * 0) (hw ((σ.1 8) + (σ.2.1 0)) 9)) (8 + 1 * 1) (hw ((σ.1 9) + (σ.2.1 1)) 9)) (8 + 1 * z9))).set 2 (hw ((σ.1 10) + (σ.2.1 2)) 9))) (by omega) G13
  refine aw_iinc (npc := 191) (v := 3) (L' := [some (.ref b), some (.int wo), some (.int σ.2.2.1), some (.int σ.2.2.2), some (.int 3), v9]) dX0_writeLetters_188 rfl rfl (by decide) (by decide) rfl rfl ?_
  refine aw_goto (npc := 155) dX0_writeLetters_191 (by decide) ?_
  refine aw_iload (npc := 157) rfl dX0_writeLetters_155 rfl ?_
  refine aw_iconst (npc := 158) (v := 4) (by decide) dX0_writeLetters_157 rfl ?_
  refine aw_icmp_ge (npc := 161) (tgt := 194) dX0_writeLetters_158 rfl (by decide) (fun hc => absurd hc (by decide)) (fun _ => ?_)
  refine aw_aload_n (npc := 162) rfl dX0_writeLetters_161 rfl ?_
  refine aw_get (npc := 165) dX0_writeLetters_162 rfl kf_X0_9 F14.1 rfl ?_
  refine aw_iload (npc := 167) rfl dX0_writeLetters_165 rfl ?_
  refine aw_aload_n (npc := 168) rfl dX0_writeLetters_167 rfl ?_
  refine aw_get (npc := 171) dX0_writeLetters_168 rfl kf_X0_9 F14.1 rfl ?_
  refine aw_iload (npc := 173) rfl dX0_writeLetters_171 rfl ?_
  refine aw_iald (npc := 174) (x := (upd (upd (upd σ.1 (8 + 1 * 0) (hw ((σ.1 8) + (σ.2.1 0)) 9)) (8 + 1 * 1) (hw ((σ.1 9) + (σ.2.1 1)) 9)) (8 + 1 * 2) (hw ((σ.1 10) + (σ.2.1 2)) 9)) 11) (j := 3) dX0_writeLetters_173 rfl F14.2.1 ⟨by decide, by decide⟩ (tl_at (by omega)) ?_
  refine aw_top (y := σ.1 11) ((((pk_un (by omega))).trans (pk_un (by omega))).trans (pk_un (by omega))) ?_
  refine aw_aload_n (npc := 175) rfl dX0_writeLetters_174 rfl ?_
  refine aw_get (npc := 178) dX0_writeLetters_175 rfl kf_X0_70 F14.1 rfl ?_
  refine aw_iload (npc := 180) rfl dX0_writeLetters_178 rfl ?_
  refine aw_iald (npc := 181) (x := σ.2.1 3) (j := 3) dX0_writeLetters_180 rfl F14.2.2.2.2.2.2.2.2.2.2.2 ⟨by decide, by decide⟩ (tl_at (by omega)) ?_
  refine aw_iadd (npc := 182) dX0_writeLetters_181 rfl ?_
  refine aw_bipush (npc := 184) (v := 9) (by decide) dX0_writeLetters_182 rfl ?_
  refine aw_callSN (npc := 187) (N := mX7_heldWithin) (mc := 0) (ms := 0) (A := [.int ((σ.1 11) + (σ.2.1 3)), .int 9]) (S := [.int 3, .ref (b + 1)]) (L0 := [some (.int ((σ.1 11) + (σ.2.1 3))), some (.int 9)]) dX0_writeLetters_184 rfl km_X7_heldWithin kk_X0_114 rfl ⟨rfl, by decide⟩ rfl (Nat.le_of_ble_eq_true rfl) (Nat.zero_add _) (Nat.zero_add _) rfl ?_
  refine g_held ?_
  refine aw_re (S' := [.int (hw ((σ.1 11) + (σ.2.1 3)) 9), .int 3, .ref (b + 1)]) rfl ?_
  refine aw_iast (npc := 188) (j := 3) dX0_writeLetters_187 rfl F14.2.1 ⟨by decide, by decide⟩ (by rw [tl_len]; omega) rfl ?_
  have F16 := qr_stand (j := 3) (v := hw ((σ.1 11) + (σ.2.1 3)) 9) F14 (by omega)
  have G17 := tt_out (k := b + 1) (c := .inl (0, (tl 4 (fun z9 => (upd (upd (upd σ.1 (8 + 1 * 0) (hw ((σ.1 8) + (σ.2.1 0)) 9)) (8 + 1 * 1) (hw ((σ.1 9) + (σ.2.1 1)) 9)) (8 + 1 * 2) (hw ((σ.1 10) + (σ.2.1 2)) 9)) (8 + 1 * z9))).set 3 (hw ((σ.1 11) + (σ.2.1 3)) 9))) (by omega) G15
  refine aw_iinc (npc := 191) (v := 4) (L' := [some (.ref b), some (.int wo), some (.int σ.2.2.1), some (.int σ.2.2.2), some (.int 4), v9]) dX0_writeLetters_188 rfl rfl (by decide) (by decide) rfl rfl ?_
  refine aw_goto (npc := 155) dX0_writeLetters_191 (by decide) ?_
  refine aw_iload (npc := 157) rfl dX0_writeLetters_155 rfl ?_
  refine aw_iconst (npc := 158) (v := 4) (by decide) dX0_writeLetters_157 rfl ?_
  refine aw_icmp_ge (npc := 161) (tgt := 194) dX0_writeLetters_158 rfl (by decide) (fun _ => ?_) (fun hc => absurd (by decide) hc)
  refine aw_aload_n (npc := 195) rfl dX0_writeLetters_194 rfl ?_
  refine aw_aload_n (npc := 196) rfl dX0_writeLetters_195 rfl ?_
  refine aw_get (npc := 199) dX0_writeLetters_196 rfl kf_X0_21 F16.1 rfl ?_
  refine aw_top (y := σ.1 3) (((((pk_un (by omega))).trans (pk_un (by omega))).trans (pk_un (by omega))).trans (pk_un (by omega))) ?_
  refine aw_iload_n (npc := 200) rfl dX0_writeLetters_199 rfl ?_
  refine aw_iadd (npc := 201) dX0_writeLetters_200 rfl ?_
  refine aw_bipush (npc := 203) (v := 99) (by decide) dX0_writeLetters_201 rfl ?_
  refine aw_callSN (npc := 206) (N := mX7_heldWithin) (mc := 0) (ms := 0) (A := [.int ((σ.1 3) + σ.2.2.1), .int 99]) (S := [.ref b]) (L0 := [some (.int ((σ.1 3) + σ.2.2.1)), some (.int 99)]) dX0_writeLetters_203 rfl km_X7_heldWithin kk_X0_114 rfl ⟨rfl, by decide⟩ rfl (Nat.le_of_ble_eq_true rfl) (Nat.zero_add _) (Nat.zero_add _) rfl ?_
  refine g_held ?_
  refine aw_re (S' := [.int (hw ((σ.1 3) + σ.2.2.1) 99), .ref b]) rfl ?_
  refine aw_put (npc := 209) dX0_writeLetters_206 rfl kf_X0_21 F16.1 (Nat.le_of_ble_eq_true rfl) (am_ok_int _) rfl ?_
  have F18 := qr_heat (v := hw ((σ.1 3) + σ.2.2.1) 99) F16
  have G19 := tt_out (k := b) (c := .inr (0, (QO b (upd (upd (upd (upd σ.1 (8 + 1 * 0) (hw ((σ.1 8) + (σ.2.1 0)) 9)) (8 + 1 * 1) (hw ((σ.1 9) + (σ.2.1 1)) 9)) (8 + 1 * 2) (hw ((σ.1 10) + (σ.2.1 2)) 9)) (8 + 1 * 3) (hw ((σ.1 11) + (σ.2.1 3)) 9))).set 3 (.int (hw ((σ.1 3) + σ.2.2.1) 99)))) (by omega) G17
  refine aw_iload_n (npc := 210) rfl dX0_writeLetters_209 rfl ?_
  refine aw_iret rfl dX0_writeLetters_210 ?_
  exact hq (endN σ) _ _ _ ⟨σ, hL, rfl, rfl⟩ F18 G19 (am_f2U (by omega) (am_f2U (by omega) (am_f2U (by omega) (am_f2U (by omega) (am_f2U (by omega) (am_f2T fz (am_f2U (by omega) (am_f2U (by omega) (am_f2U (by omega) (am_f2U (by omega) am_f20))))))))))
set_option maxHeartbeats 4000000 in
set_option maxRecDepth 100000 in
theorem g_runL {X : List Int32} {d rc rs n : Nat} {Q : am_Q} {b : Nat} {tx : List Value} {lk : Nat → Int32} {fr c : Nat} {wo : Int32} {tb : TB} {N0 : Nat → Int32} (hF : N0 1 = nI fr) (hfr : fr ≤ 8) (hc7 : N0 7 = nI c) (hv : TXv tb.1 c tx) (hK : WK N0) (hb : b + 12 ≤ 92) {K : Nat} (hKK : K < 1000) : ∀ (m j : Nat), j + m = K → ∀ (N : Nat → Int32) (s : Int32) (mv : Nat → Int32) (h : am_H), QR b N tx lk mv h → TT tb h → (∀ k, keepK k → N k = N0 k) → (∀ (N9 : Nat → Int32) (s9 : Int32) (mv9 : Nat → Int32) (i9 : Int32) (h9 : am_H), runR fr tb tx lk wo m N s N9 s9 → QR b N9 tx lk mv9 h9 → TT tb h9 → am_f2 b h9 h → AW X mX0_runPosts (d + 14) rc rs 39 [some (.ref b), some (.int (nI K)), some (.int wo), some (.int s9), some (.int i9)] [] n h9 Q) → AW X mX0_runPosts (d + 14) rc rs 5 [some (.ref b), some (.int (nI K)), some (.int wo), some (.int s), some (.int (nI j))] [] n h Q := by
  intro m
  induction m with
  | zero =>
    intro j hj N s mv h F G hkp hq
    obtain rfl : j = K := by omega
    refine aw_iload (npc := 7) rfl dX0_runPosts_5 rfl ?_
    refine aw_iload_n (npc := 8) rfl dX0_runPosts_7 rfl ?_
    exact aw_icmp_ge (npc := 11) (tgt := 39) dX0_runPosts_8 rfl (by decide) (fun _ => hq N s mv _ h ⟨rfl, rfl⟩ F G am_f20) (fun hc => absurd (nI_le (Nat.le_refl _) (by omega)) hc)
  | succ m ih =>
    intro j hj N s mv h F G hkp hq
    have hKN : WK N := fun f hf => by
      rw [hkp (22 + 5 * f) ⟨by omega, by omega, by omega, by omega, by omega, by omega⟩, hkp (23 + 5 * f) ⟨by omega, by omega, by omega, by omega, by omega, by omega⟩]
      exact hK f hf
    refine aw_iload (npc := 7) rfl dX0_runPosts_5 rfl ?_
    refine aw_iload_n (npc := 8) rfl dX0_runPosts_7 rfl ?_
    refine aw_icmp_ge (npc := 11) (tgt := 39) dX0_runPosts_8 rfl (by decide) (fun hc => absurd hc (nI_ge (a := j) (b := K) (by omega) (by omega))) (fun _ => ?_)
    refine aw_aload_n (npc := 12) rfl dX0_runPosts_11 rfl ?_
    refine aw_callV (npc := 15) (N := mX0_isPeace) (b := b) (mc := 0) (ms := 0) (A := []) (S := []) (L0 := [some (.ref b)]) dX0_runPosts_12 rfl km_X0_isPeace kk_X0_117 F.1 ⟨by decide, rfl⟩ rfl ⟨rfl, by decide⟩ rfl (Nat.le_of_ble_eq_true rfl) (Nat.zero_add _) (Nat.zero_add _) rfl ?_
    refine g_peace F (fun hp2 => ?_) (fun hp2 => ?_)
    · refine aw_re (S' := [.int 1]) rfl ?_
      refine aw_if_ne (npc := 18) (tgt := 39) dX0_runPosts_15 rfl (by decide) (fun _ => ?_) (fun hc => absurd hc (by decide))
      exact hq N s mv _ h (Or.inl ⟨Or.inl hp2, rfl, rfl⟩) F G am_f20
    · refine aw_re (S' := [.int 0]) rfl ?_
      refine aw_if_ne (npc := 18) (tgt := 39) dX0_runPosts_15 rfl (by decide) (fun hc => absurd (by decide) hc) (fun _ => ?_)
      refine aw_aload_n (npc := 19) rfl dX0_runPosts_18 rfl ?_
      refine aw_callV (npc := 22) (N := mX0_isDuel) (b := b) (mc := 0) (ms := 0) (A := []) (S := []) (L0 := [some (.ref b)]) dX0_runPosts_19 rfl km_X0_isDuel kk_X0_121 F.1 ⟨by decide, rfl⟩ rfl ⟨rfl, by decide⟩ rfl (Nat.le_of_ble_eq_true rfl) (Nat.zero_add _) (Nat.zero_add _) rfl ?_
      refine g_duel F (fun hd3 => ?_) (fun hd3 => ?_)
      · refine aw_re (S' := [.int 1]) rfl ?_
        refine aw_if_ne (npc := 25) (tgt := 39) dX0_runPosts_22 rfl (by decide) (fun _ => ?_) (fun hc => absurd hc (by decide))
        exact hq N s mv _ h (Or.inl ⟨Or.inr hd3, rfl, rfl⟩) F G am_f20
      · refine aw_re (S' := [.int 0]) rfl ?_
        refine aw_if_ne (npc := 25) (tgt := 39) dX0_runPosts_22 rfl (by decide) (fun hc => absurd (by decide) hc) (fun _ => ?_)
        refine aw_iload_n (npc := 26) rfl dX0_runPosts_25 rfl ?_
        refine aw_aload_n (npc := 27) rfl dX0_runPosts_26 rfl ?_
        refine aw_iload_n (npc := 28) rfl dX0_runPosts_27 rfl ?_
        refine aw_callV (npc := 31) (N := mX0_writeLetters) (b := b) (mc := 0) (ms := 0) (A := [.int wo]) (S := [.int s]) (L0 := [some (.ref b), some (.int wo), none, none, none, none]) dX0_runPosts_28 rfl km_X0_writeLetters kk_X0_124 F.1 ⟨by decide, rfl⟩ rfl ⟨rfl, by decide⟩ rfl (Nat.le_of_ble_eq_true rfl) (Nat.zero_add _) (Nat.zero_add _) rfl ?_
        refine g_write F G ((hkp 1 ⟨by omega, by omega, by omega, by omega, by omega, by omega⟩).trans hF) hfr ((hkp 7 ⟨by omega, by omega, by omega, by omega, by omega, by omega⟩).trans hc7) hv hKN hb (fun N9 s9 mv9 h9 hpo F9 G9 fz => ?_)
        refine aw_re (S' := [.int s9, .int s]) rfl ?_
        refine aw_iadd (npc := 32) dX0_runPosts_31 rfl ?_
        refine aw_istore_n (npc := 33) (L' := [some (.ref b), some (.int (nI K)), some (.int wo), some (.int (s + s9)), some (.int (nI j))]) dX0_runPosts_32 rfl (by decide) rfl rfl ?_
        refine aw_iinc (npc := 36) (v := nI (j + 1)) (L' := [some (.ref b), some (.int (nI K)), some (.int wo), some (.int (s + s9)), some (.int (nI (j + 1)))]) dX0_runPosts_33 rfl rfl (nI_1 _) (by decide) rfl rfl ?_
        refine aw_goto (npc := 5) dX0_runPosts_36 (by decide) ?_
        refine ih (j + 1) (by omega) N9 (s + s9) mv9 h9 F9 G9 (fun k hk => (post_keep hk hpo).trans (hkp k hk)) (fun N8 s8 mv8 i8 h8 hr F8 G8 f8 => hq N8 s8 mv8 i8 h8 (Or.inr ⟨hp2, hd3, N9, s9, hpo, hr⟩) F8 G8 (am_f2T f8 (am_f2T fz am_f20)))
set_option maxHeartbeats 4000000 in
set_option maxRecDepth 100000 in
theorem g_run {X : List Int32} {d rc rs n : Nat} {Q : am_Q} {b : Nat} {N : Nat → Int32} {tx : List Value} {lk mv : Nat → Int32} {h : am_H} {fr c : Nat} {wo : Int32} {tb : TB} (F : QR b N tx lk mv h) (G : TT tb h) (hF : N 1 = nI fr) (hfr : fr ≤ 8) (hc7 : N 7 = nI c) (hv : TXv tb.1 c tx) (hK : WK N) (hb : b + 12 ≤ 92) {K : Nat} (hKK : K < 1000) (hq : ∀ N9 s9 mv9 h9, runR fr tb tx lk wo K N 0 N9 s9 → QR b (upd N9 2 (N9 2 + nI K)) tx lk mv9 h9 → TT tb h9 → am_f2 b h9 h → Q (some (.int s9)) n h9) : AW X mX0_runPosts (d + 14) rc rs 0 [some (.ref b), some (.int (nI K)), some (.int wo), none, none] [] n h Q := by
  refine aw_iconst (npc := 1) (v := 0) (by decide) dX0_runPosts_0 rfl ?_
  refine aw_istore_n (npc := 2) (L' := [some (.ref b), some (.int (nI K)), some (.int wo), some (.int 0), none]) dX0_runPosts_1 rfl (by decide) rfl rfl ?_
  refine aw_iconst (npc := 3) (v := 0) (by decide) dX0_runPosts_2 rfl ?_
  refine aw_istore (npc := 5) (L' := [some (.ref b), some (.int (nI K)), some (.int wo), some (.int 0), some (.int 0)]) dX0_runPosts_3 rfl (by decide) rfl rfl ?_
  refine aw_locs (L' := [some (.ref b), some (.int (nI K)), some (.int wo), some (.int 0), some (.int (nI 0))]) rfl ?_
  refine g_runL hF hfr hc7 hv hK hb hKK K 0 (by omega) N 0 mv h F G (fun _ _ => rfl) (fun N9 s9 mv9 i9 h9 hr F9 G9 fz => ?_)
  refine aw_aload_n (npc := 40) rfl dX0_runPosts_39 rfl ?_
  refine aw_dup (npc := 41) rfl dX0_runPosts_40 rfl ?_
  refine aw_get (npc := 44) dX0_runPosts_41 rfl kf_X0_34 F9.1 rfl ?_
  refine aw_iload_n (npc := 45) rfl dX0_runPosts_44 rfl ?_
  refine aw_iadd (npc := 46) dX0_runPosts_45 rfl ?_
  refine aw_put (npc := 49) dX0_runPosts_46 rfl kf_X0_34 F9.1 (Nat.le_of_ble_eq_true rfl) (am_ok_int _) rfl ?_
  have F1 := qr_post (v := (N9 2) + (nI K)) F9
  have G2 := tt_out (k := b) (c := .inr (0, (QO b N9).set 7 (.int ((N9 2) + (nI K))))) (by omega) G9
  refine aw_iload_n (npc := 50) rfl dX0_runPosts_49 rfl ?_
  refine aw_iret rfl dX0_runPosts_50 ?_
  exact hq N9 s9 mv9 _ hr F1 G2 (am_f2U (by omega) fz)
