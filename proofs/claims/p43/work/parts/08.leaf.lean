theorem wi_01 {x : Int32} : wi x 0 1 ↔ (x = 0 ∨ x = 1) := by
  constructor
  · intro h
    have h1 : ¬ x.toInt < 0 := fun q => h.1 (Int32.lt_iff_toInt_lt.mpr (by simpa using q))
    have h2 : ¬ 1 < x.toInt := fun q => h.2 (Int32.lt_iff_toInt_lt.mpr (by simpa using q))
    rcases (show x.toInt = 0 ∨ x.toInt = 1 by omega) with q | q
    · exact Or.inl (Int32.toInt_inj.mp (by rw [q]; rfl))
    · exact Or.inr (Int32.toInt_inj.mp (by rw [q]; rfl))
  · rintro (rfl | rfl) <;> exact ⟨by decide, by decide⟩
section AML
variable {X : List Int32} {d rc rs n : Nat} {h : am_H} {Q : am_Q}
set_option maxHeartbeats 4000000 in
theorem c_X7_within {v lo hi : Int32} (k1 : wi v lo hi → Q (some (.int 1)) n h) (k0 : ¬ wi v lo hi → Q (some (.int 0)) n h) : AW X mX7_within (d + 0) rc rs 0 [some (.int v), some (.int lo), some (.int hi)] [] n h Q := by
  refine aw_iload_n (npc := 1) rfl dX7_within_0 rfl ?_
  refine aw_iload_n (npc := 2) rfl dX7_within_1 rfl ?_
  refine aw_icmp_lt (npc := 5) (tgt := 14) dX7_within_2 rfl (by decide) (fun hc1 => ?_) (fun hc1 => ?_)
  · refine aw_iconst (npc := 15) (v := 0) (by decide) dX7_within_14 rfl ?_
    refine aw_zret rfl rfl dX7_within_15 ?_
    exact k0 (fun h9 => h9.1 hc1)
  · refine aw_iload_n (npc := 6) rfl dX7_within_5 rfl ?_
    refine aw_iload_n (npc := 7) rfl dX7_within_6 rfl ?_
    refine aw_icmp_gt (npc := 10) (tgt := 14) dX7_within_7 rfl (by decide) (fun hc2 => ?_) (fun hc2 => ?_)
    · refine aw_iconst (npc := 15) (v := 0) (by decide) dX7_within_14 rfl ?_
      refine aw_zret rfl rfl dX7_within_15 ?_
      exact k0 (fun h9 => h9.2 hc2)
    · refine aw_iconst (npc := 11) (v := 1) (by decide) dX7_within_10 rfl ?_
      refine aw_goto (npc := 15) dX7_within_11 (by decide) ?_
      refine aw_zret rfl rfl dX7_within_15 ?_
      exact k1 ⟨hc1, hc2⟩
set_option maxHeartbeats 4000000 in
theorem c_X8_in {v lo hi : Int32} (k1 : wi v lo hi → Q (some (.int 1)) n h) (k0 : ¬ wi v lo hi → Q (some (.int 0)) n h) : AW X mX8_in (d + 0) rc rs 0 [some (.int v), some (.int lo), some (.int hi)] [] n h Q := by
  refine aw_iload_n (npc := 1) rfl dX8_in_0 rfl ?_
  refine aw_iload_n (npc := 2) rfl dX8_in_1 rfl ?_
  refine aw_icmp_lt (npc := 5) (tgt := 14) dX8_in_2 rfl (by decide) (fun hc1 => ?_) (fun hc1 => ?_)
  · refine aw_iconst (npc := 15) (v := 0) (by decide) dX8_in_14 rfl ?_
    refine aw_zret rfl rfl dX8_in_15 ?_
    exact k0 (fun h9 => h9.1 hc1)
  · refine aw_iload_n (npc := 6) rfl dX8_in_5 rfl ?_
    refine aw_iload_n (npc := 7) rfl dX8_in_6 rfl ?_
    refine aw_icmp_gt (npc := 10) (tgt := 14) dX8_in_7 rfl (by decide) (fun hc2 => ?_) (fun hc2 => ?_)
    · refine aw_iconst (npc := 15) (v := 0) (by decide) dX8_in_14 rfl ?_
      refine aw_zret rfl rfl dX8_in_15 ?_
      exact k0 (fun h9 => h9.2 hc2)
    · refine aw_iconst (npc := 11) (v := 1) (by decide) dX8_in_10 rfl ?_
      refine aw_goto (npc := 15) dX8_in_11 (by decide) ?_
      refine aw_zret rfl rfl dX8_in_15 ?_
      exact k1 ⟨hc1, hc2⟩
set_option maxHeartbeats 4000000 in
theorem c_X7_isTerm {v : Int32} (k1 : wi v 0 3 → Q (some (.int 1)) n h) (k0 : ¬ wi v 0 3 → Q (some (.int 0)) n h) : AW X mX7_isTerm (d + 1) rc rs 0 [some (.int v)] [] n h Q := by
  refine aw_iload_n (npc := 1) rfl dX7_isTerm_0 rfl ?_
  refine aw_iconst (npc := 2) (v := 0) (by decide) dX7_isTerm_1 rfl ?_
  refine aw_iconst (npc := 3) (v := 3) (by decide) dX7_isTerm_2 rfl ?_
  refine aw_callS (npc := 6) (N := mX7_within) (mc := 0) (ms := 0) (A := [.int v, .int 0, .int 3]) (S := []) (L0 := [some (.int v), some (.int 0), some (.int 3)]) dX7_isTerm_3 rfl km_X7_within kk_X7_74 rfl ⟨rfl, by decide⟩ rfl (Nat.le_of_ble_eq_true rfl) (Nat.zero_add _) (Nat.zero_add _) rfl ?_
  refine c_X7_within (fun hw1 => ?_) (fun hw1 => ?_)
  · refine aw_re (S' := [.int 1]) rfl ?_
    refine aw_zret rfl rfl dX7_isTerm_6 ?_
    exact k1 hw1
  · refine aw_re (S' := [.int 0]) rfl ?_
    refine aw_zret rfl rfl dX7_isTerm_6 ?_
    exact k0 hw1
set_option maxHeartbeats 4000000 in
theorem c_X7_isKind {v : Int32} (k1 : wi v 0 5 → Q (some (.int 1)) n h) (k0 : ¬ wi v 0 5 → Q (some (.int 0)) n h) : AW X mX7_isKind (d + 1) rc rs 0 [some (.int v)] [] n h Q := by
  refine aw_iload_n (npc := 1) rfl dX7_isKind_0 rfl ?_
  refine aw_iconst (npc := 2) (v := 0) (by decide) dX7_isKind_1 rfl ?_
  refine aw_iconst (npc := 3) (v := 5) (by decide) dX7_isKind_2 rfl ?_
  refine aw_callS (npc := 6) (N := mX7_within) (mc := 0) (ms := 0) (A := [.int v, .int 0, .int 5]) (S := []) (L0 := [some (.int v), some (.int 0), some (.int 5)]) dX7_isKind_3 rfl km_X7_within kk_X7_74 rfl ⟨rfl, by decide⟩ rfl (Nat.le_of_ble_eq_true rfl) (Nat.zero_add _) (Nat.zero_add _) rfl ?_
  refine c_X7_within (fun hw1 => ?_) (fun hw1 => ?_)
  · refine aw_re (S' := [.int 1]) rfl ?_
    refine aw_zret rfl rfl dX7_isKind_6 ?_
    exact k1 hw1
  · refine aw_re (S' := [.int 0]) rfl ?_
    refine aw_zret rfl rfl dX7_isKind_6 ?_
    exact k0 hw1
set_option maxHeartbeats 4000000 in
theorem c_X7_isSheet {v : Int32} (k1 : wi v 0 3 → Q (some (.int 1)) n h) (k0 : ¬ wi v 0 3 → Q (some (.int 0)) n h) : AW X mX7_isSheet (d + 1) rc rs 0 [some (.int v)] [] n h Q := by
  refine aw_iload_n (npc := 1) rfl dX7_isSheet_0 rfl ?_
  refine aw_iconst (npc := 2) (v := 0) (by decide) dX7_isSheet_1 rfl ?_
  refine aw_iconst (npc := 3) (v := 3) (by decide) dX7_isSheet_2 rfl ?_
  refine aw_callS (npc := 6) (N := mX7_within) (mc := 0) (ms := 0) (A := [.int v, .int 0, .int 3]) (S := []) (L0 := [some (.int v), some (.int 0), some (.int 3)]) dX7_isSheet_3 rfl km_X7_within kk_X7_74 rfl ⟨rfl, by decide⟩ rfl (Nat.le_of_ble_eq_true rfl) (Nat.zero_add _) (Nat.zero_add _) rfl ?_
  refine c_X7_within (fun hw1 => ?_) (fun hw1 => ?_)
  · refine aw_re (S' := [.int 1]) rfl ?_
    refine aw_zret rfl rfl dX7_isSheet_6 ?_
    exact k1 hw1
  · refine aw_re (S' := [.int 0]) rfl ?_
    refine aw_zret rfl rfl dX7_isSheet_6 ?_
    exact k0 hw1
set_option maxHeartbeats 4000000 in
theorem c_X7_isSlot {v : Int32} (k1 : wi v 0 4 → Q (some (.int 1)) n h) (k0 : ¬ wi v 0 4 → Q (some (.int 0)) n h) : AW X mX7_isSlot (d + 1) rc rs 0 [some (.int v)] [] n h Q := by
  refine aw_iload_n (npc := 1) rfl dX7_isSlot_0 rfl ?_
  refine aw_iconst (npc := 2) (v := 0) (by decide) dX7_isSlot_1 rfl ?_
  refine aw_iconst (npc := 3) (v := 4) (by decide) dX7_isSlot_2 rfl ?_
  refine aw_callS (npc := 6) (N := mX7_within) (mc := 0) (ms := 0) (A := [.int v, .int 0, .int 4]) (S := []) (L0 := [some (.int v), some (.int 0), some (.int 4)]) dX7_isSlot_3 rfl km_X7_within kk_X7_74 rfl ⟨rfl, by decide⟩ rfl (Nat.le_of_ble_eq_true rfl) (Nat.zero_add _) (Nat.zero_add _) rfl ?_
  refine c_X7_within (fun hw1 => ?_) (fun hw1 => ?_)
  · refine aw_re (S' := [.int 1]) rfl ?_
    refine aw_zret rfl rfl dX7_isSlot_6 ?_
    exact k1 hw1
  · refine aw_re (S' := [.int 0]) rfl ?_
    refine aw_zret rfl rfl dX7_isSlot_6 ?_
    exact k0 hw1
set_option maxHeartbeats 4000000 in
theorem c_X8_isSheet {v : Int32} (k1 : wi v 0 3 → Q (some (.int 1)) n h) (k0 : ¬ wi v 0 3 → Q (some (.int 0)) n h) : AW X mX8_isSheet (d + 1) rc rs 0 [some (.int v)] [] n h Q := by
  refine aw_iload_n (npc := 1) rfl dX8_isSheet_0 rfl ?_
  refine aw_iconst (npc := 2) (v := 0) (by decide) dX8_isSheet_1 rfl ?_
  refine aw_iconst (npc := 3) (v := 3) (by decide) dX8_isSheet_2 rfl ?_
  refine aw_callS (npc := 6) (N := mX8_in) (mc := 0) (ms := 0) (A := [.int v, .int 0, .int 3]) (S := []) (L0 := [some (.int v), some (.int 0), some (.int 3)]) dX8_isSheet_3 rfl km_X8_in kk_X8_83 rfl ⟨rfl, by decide⟩ rfl (Nat.le_of_ble_eq_true rfl) (Nat.zero_add _) (Nat.zero_add _) rfl ?_
  refine c_X8_in (fun hw1 => ?_) (fun hw1 => ?_)
  · refine aw_re (S' := [.int 1]) rfl ?_
    refine aw_zret rfl rfl dX8_isSheet_6 ?_
    exact k1 hw1
  · refine aw_re (S' := [.int 0]) rfl ?_
    refine aw_zret rfl rfl dX8_isSheet_6 ?_
    exact k0 hw1
set_option maxHeartbeats 4000000 in
theorem c_X8_isSlot {v : Int32} (k1 : wi v 0 4 → Q (some (.int 1)) n h) (k0 : ¬ wi v 0 4 → Q (some (.int 0)) n h) : AW X mX8_isSlot (d + 1) rc rs 0 [some (.int v)] [] n h Q := by
  refine aw_iload_n (npc := 1) rfl dX8_isSlot_0 rfl ?_
  refine aw_iconst (npc := 2) (v := 0) (by decide) dX8_isSlot_1 rfl ?_
  refine aw_iconst (npc := 3) (v := 4) (by decide) dX8_isSlot_2 rfl ?_
  refine aw_callS (npc := 6) (N := mX8_in) (mc := 0) (ms := 0) (A := [.int v, .int 0, .int 4]) (S := []) (L0 := [some (.int v), some (.int 0), some (.int 4)]) dX8_isSlot_3 rfl km_X8_in kk_X8_83 rfl ⟨rfl, by decide⟩ rfl (Nat.le_of_ble_eq_true rfl) (Nat.zero_add _) (Nat.zero_add _) rfl ?_
  refine c_X8_in (fun hw1 => ?_) (fun hw1 => ?_)
  · refine aw_re (S' := [.int 1]) rfl ?_
    refine aw_zret rfl rfl dX8_isSlot_6 ?_
    exact k1 hw1
  · refine aw_re (S' := [.int 0]) rfl ?_
    refine aw_zret rfl rfl dX8_isSlot_6 ?_
    exact k0 hw1
set_option maxHeartbeats 4000000 in
theorem c_X7_isSide {v : Int32} (k1 : wi v 0 1 → Q (some (.int 1)) n h) (k0 : ¬ wi v 0 1 → Q (some (.int 0)) n h) : AW X mX7_isSide (d + 0) rc rs 0 [some (.int v)] [] n h Q := by
  refine aw_iload_n (npc := 1) rfl dX7_isSide_0 rfl ?_
  refine aw_if_eq (npc := 4) (tgt := 9) dX7_isSide_1 rfl (by decide) (fun hc1 => ?_) (fun hc1 => ?_)
  · refine aw_iconst (npc := 10) (v := 1) (by decide) dX7_isSide_9 rfl ?_
    refine aw_goto (npc := 14) dX7_isSide_10 (by decide) ?_
    refine aw_zret rfl rfl dX7_isSide_14 ?_
    exact k1 (wi_01.mpr (Or.inl hc1))
  · refine aw_iload_n (npc := 5) rfl dX7_isSide_4 rfl ?_
    refine aw_iconst (npc := 6) (v := 1) (by decide) dX7_isSide_5 rfl ?_
    refine aw_icmp_ne (npc := 9) (tgt := 13) dX7_isSide_6 rfl (by decide) (fun hc2 => ?_) (fun hc2 => ?_)
    · refine aw_iconst (npc := 14) (v := 0) (by decide) dX7_isSide_13 rfl ?_
      refine aw_zret rfl rfl dX7_isSide_14 ?_
      exact k0 (fun h9 => (wi_01.mp h9).elim hc1 hc2)
    · refine aw_iconst (npc := 10) (v := 1) (by decide) dX7_isSide_9 rfl ?_
      refine aw_goto (npc := 14) dX7_isSide_10 (by decide) ?_
      refine aw_zret rfl rfl dX7_isSide_14 ?_
      exact k1 (wi_01.mpr (Or.inr hc2))
end AML
