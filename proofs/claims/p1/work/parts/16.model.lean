def nw (hv pt s0 s1 s2 s3 : Int32) : List Int32 := 1 :: 0 :: pt :: hv :: 60 :: 10 :: 0 :: 0 :: s0 :: s1 :: s2 :: s3 :: 1 :: 1 :: 1 :: 1 :: 1 :: 1 :: 1 :: 1 :: 20 :: 20 :: List.replicate 1412 0
def nb : List Int32 := 1 :: 0 :: 0 :: 0 :: 60 :: 10 :: 0 :: 0 :: 5 :: 5 :: 5 :: 5 :: 1 :: 1 :: 1 :: 1 :: 1 :: 1 :: 1 :: 1 :: 20 :: 20 :: List.replicate 40 0
def fm (si hot hv pt s0 s1 s2 s3 : Int32) (bf : List Int32) (h : am_H) : Prop := h 69 = some (.inr (8, [.ref 70, .ref 71, .ref 72, .int 0, .int si, .ref 73, .int hot, .ref 74, .ref 75, .int 0, .int 0, .int 0, .int 0, .int 0, .int 0, .int 0, .ref 76, .ref 77, .ref 78, .int 0, .int 0, .ref 79, .int 0, .ref 80, .ref 81, .ref 82, .ref 83, .ref 84, .ref 85, .ref 86, .ref 87, .ref 88, .ref 89, .ref 90, .ref 91, .int 0])) ∧ h 70 = some (.inl (0, nw hv pt s0 s1 s2 s3)) ∧ h 73 = some (.inl (0, [0, 0, 0, 0])) ∧ h 74 = some (.inl (0, bf))
theorem nlt20 {s : Nat} (hs : s < 2 ^ 31) (h : ¬ nI s < 20) : 20 ≤ s := by
  rcases Nat.lt_or_ge s 20 with q | q
  · exact absurd (nI_lt (a := s) (b := 20) q (by omega)) h
  · exact q
set_option maxHeartbeats 40000000 in
set_option maxRecDepth 100000 in
theorem p_mp5 {X : List Int32} {d rc rs nn : Nat} {Q : am_Q} {si hot hv pt : Int32} {bf : List Int32} {h : am_H} (F : fm si hot hv pt 5 5 5 5 bf h) (hq : Q (some (.int 0)) nn h) : AW X mX8_isPeace (d + 4) rc rs 0 [some (.ref 69)] [] nn h Q := by
  obtain ⟨g69, g70, g73, g74⟩ := F
  refine aw_aload_n (npc := 1) rfl dX8_isPeace_0 rfl ?_
  refine aw_iconst (npc := 2) (v := 0) (by decide) dX8_isPeace_1 rfl ?_
  refine aw_callV (npc := 5) (N := mX8_has) (b := 69) (mc := 0) (ms := 0) (A := [.int 0]) (S := []) (L0 := [some (.ref 69), some (.int 0), none, none, none]) dX8_isPeace_2 rfl km_X8_has kk_X8_143 g69 ⟨by decide, rfl⟩ rfl ⟨rfl, by decide⟩ rfl (Nat.le_of_ble_eq_true rfl) (Nat.zero_add _) (Nat.zero_add _) rfl ?_
  refine aw_iconst (npc := 1) (v := 0) (by decide) dX8_has_0 rfl ?_
  refine aw_istore_n (npc := 2) (L' := [some (.ref 69), some (.int 0), some (.int 0), none, none]) dX8_has_1 rfl (by decide) rfl rfl ?_
  refine aw_iconst (npc := 3) (v := 0) (by decide) dX8_has_2 rfl ?_
  refine aw_istore_n (npc := 4) (L' := [some (.ref 69), some (.int 0), some (.int 0), some (.int 0), none]) dX8_has_3 rfl (by decide) rfl rfl ?_
  refine aw_iload_n (npc := 5) rfl dX8_has_4 rfl ?_
  refine aw_iconst (npc := 6) (v := 4) (by decide) dX8_has_5 rfl ?_
  refine aw_icmp_ge (npc := 9) (tgt := 57) dX8_has_6 rfl (by decide) (fun hc => absurd hc (by decide)) (fun _ => ?_)
  refine aw_aload_n (npc := 10) rfl dX8_has_9 rfl ?_
  refine aw_get (npc := 13) dX8_has_10 rfl kf_X8_9 g69 rfl ?_
  refine aw_bipush (npc := 15) (v := 8) (by decide) dX8_has_13 rfl ?_
  refine aw_iload_n (npc := 16) rfl dX8_has_15 rfl ?_
  refine aw_iaddV (npc := 17) (v := 8) dX8_has_16 rfl (by decide) ?_
  refine aw_iald (npc := 18) (x := 5) (j := 8) dX8_has_17 rfl g70 ⟨by decide, by decide⟩ rfl ?_
  refine aw_istore (npc := 20) (L' := [some (.ref 69), some (.int 0), some (.int 0), some (.int 0), some (.int 5)]) dX8_has_18 rfl (by decide) rfl rfl ?_
  refine aw_iload_n (npc := 21) rfl dX8_has_20 rfl ?_
  refine aw_aload_n (npc := 22) rfl dX8_has_21 rfl ?_
  refine aw_get (npc := 25) dX8_has_22 rfl kf_X8_9 g69 rfl ?_
  refine aw_bipush (npc := 27) (v := 12) (by decide) dX8_has_25 rfl ?_
  refine aw_iconst (npc := 28) (v := 4) (by decide) dX8_has_27 rfl ?_
  refine aw_iload_n (npc := 29) rfl dX8_has_28 rfl ?_
  refine aw_imulV (npc := 30) (v := 0) dX8_has_29 rfl (by decide) ?_
  refine aw_iaddV (npc := 31) (v := 12) dX8_has_30 rfl (by decide) ?_
  refine aw_iload_n (npc := 32) rfl dX8_has_31 rfl ?_
  refine aw_iaddV (npc := 33) (v := 12) dX8_has_32 rfl (by decide) ?_
  refine aw_iald (npc := 34) (x := 1) (j := 12) dX8_has_33 rfl g70 ⟨by decide, by decide⟩ rfl ?_
  refine aw_iload_n (npc := 35) rfl dX8_has_34 rfl ?_
  refine aw_if_ne (npc := 38) (tgt := 43) dX8_has_35 rfl (by decide) (fun hc => absurd (by decide) hc) (fun _ => ?_)
  refine aw_iload (npc := 40) rfl dX8_has_38 rfl ?_
  refine aw_goto (npc := 48) dX8_has_40 (by decide) ?_
  refine aw_imulV (npc := 49) (v := 5) dX8_has_48 rfl (by decide) ?_
  refine aw_iaddV (npc := 50) (v := 5) dX8_has_49 rfl (by decide) ?_
  refine aw_istore_n (npc := 51) (L' := [some (.ref 69), some (.int 0), some (.int 5), some (.int 0), some (.int 5)]) dX8_has_50 rfl (by decide) rfl rfl ?_
  refine aw_iinc (npc := 54) (v := 1) (L' := [some (.ref 69), some (.int 0), some (.int 5), some (.int 1), some (.int 5)]) dX8_has_51 rfl rfl (by decide) (by decide) rfl rfl ?_
  refine aw_goto (npc := 4) dX8_has_54 (by decide) ?_
  refine aw_iload_n (npc := 5) rfl dX8_has_4 rfl ?_
  refine aw_iconst (npc := 6) (v := 4) (by decide) dX8_has_5 rfl ?_
  refine aw_icmp_ge (npc := 9) (tgt := 57) dX8_has_6 rfl (by decide) (fun hc => absurd hc (by decide)) (fun _ => ?_)
  refine aw_aload_n (npc := 10) rfl dX8_has_9 rfl ?_
  refine aw_get (npc := 13) dX8_has_10 rfl kf_X8_9 g69 rfl ?_
  refine aw_bipush (npc := 15) (v := 8) (by decide) dX8_has_13 rfl ?_
  refine aw_iload_n (npc := 16) rfl dX8_has_15 rfl ?_
  refine aw_iaddV (npc := 17) (v := 9) dX8_has_16 rfl (by decide) ?_
  refine aw_iald (npc := 18) (x := 5) (j := 9) dX8_has_17 rfl g70 ⟨by decide, by decide⟩ rfl ?_
  refine aw_istore (npc := 20) (L' := [some (.ref 69), some (.int 0), some (.int 5), some (.int 1), some (.int 5)]) dX8_has_18 rfl (by decide) rfl rfl ?_
  refine aw_iload_n (npc := 21) rfl dX8_has_20 rfl ?_
  refine aw_aload_n (npc := 22) rfl dX8_has_21 rfl ?_
  refine aw_get (npc := 25) dX8_has_22 rfl kf_X8_9 g69 rfl ?_
  refine aw_bipush (npc := 27) (v := 12) (by decide) dX8_has_25 rfl ?_
  refine aw_iconst (npc := 28) (v := 4) (by decide) dX8_has_27 rfl ?_
  refine aw_iload_n (npc := 29) rfl dX8_has_28 rfl ?_
  refine aw_imulV (npc := 30) (v := 0) dX8_has_29 rfl (by decide) ?_
  refine aw_iaddV (npc := 31) (v := 12) dX8_has_30 rfl (by decide) ?_
  refine aw_iload_n (npc := 32) rfl dX8_has_31 rfl ?_
  refine aw_iaddV (npc := 33) (v := 13) dX8_has_32 rfl (by decide) ?_
  refine aw_iald (npc := 34) (x := 1) (j := 13) dX8_has_33 rfl g70 ⟨by decide, by decide⟩ rfl ?_
  refine aw_iload_n (npc := 35) rfl dX8_has_34 rfl ?_
  refine aw_if_ne (npc := 38) (tgt := 43) dX8_has_35 rfl (by decide) (fun hc => absurd (by decide) hc) (fun _ => ?_)
  refine aw_iload (npc := 40) rfl dX8_has_38 rfl ?_
  refine aw_goto (npc := 48) dX8_has_40 (by decide) ?_
  refine aw_imulV (npc := 49) (v := 5) dX8_has_48 rfl (by decide) ?_
  refine aw_iaddV (npc := 50) (v := 10) dX8_has_49 rfl (by decide) ?_
  refine aw_istore_n (npc := 51) (L' := [some (.ref 69), some (.int 0), some (.int 10), some (.int 1), some (.int 5)]) dX8_has_50 rfl (by decide) rfl rfl ?_
  refine aw_iinc (npc := 54) (v := 2) (L' := [some (.ref 69), some (.int 0), some (.int 10), some (.int 2), some (.int 5)]) dX8_has_51 rfl rfl (by decide) (by decide) rfl rfl ?_
  refine aw_goto (npc := 4) dX8_has_54 (by decide) ?_
  refine aw_iload_n (npc := 5) rfl dX8_has_4 rfl ?_
  refine aw_iconst (npc := 6) (v := 4) (by decide) dX8_has_5 rfl ?_
  refine aw_icmp_ge (npc := 9) (tgt := 57) dX8_has_6 rfl (by decide) (fun hc => absurd hc (by decide)) (fun _ => ?_)
  refine aw_aload_n (npc := 10) rfl dX8_has_9 rfl ?_
  refine aw_get (npc := 13) dX8_has_10 rfl kf_X8_9 g69 rfl ?_
  refine aw_bipush (npc := 15) (v := 8) (by decide) dX8_has_13 rfl ?_
  refine aw_iload_n (npc := 16) rfl dX8_has_15 rfl ?_
  refine aw_iaddV (npc := 17) (v := 10) dX8_has_16 rfl (by decide) ?_
  refine aw_iald (npc := 18) (x := 5) (j := 10) dX8_has_17 rfl g70 ⟨by decide, by decide⟩ rfl ?_
  refine aw_istore (npc := 20) (L' := [some (.ref 69), some (.int 0), some (.int 10), some (.int 2), some (.int 5)]) dX8_has_18 rfl (by decide) rfl rfl ?_
  refine aw_iload_n (npc := 21) rfl dX8_has_20 rfl ?_
  refine aw_aload_n (npc := 22) rfl dX8_has_21 rfl ?_
  refine aw_get (npc := 25) dX8_has_22 rfl kf_X8_9 g69 rfl ?_
  refine aw_bipush (npc := 27) (v := 12) (by decide) dX8_has_25 rfl ?_
  refine aw_iconst (npc := 28) (v := 4) (by decide) dX8_has_27 rfl ?_
  refine aw_iload_n (npc := 29) rfl dX8_has_28 rfl ?_
  refine aw_imulV (npc := 30) (v := 0) dX8_has_29 rfl (by decide) ?_
  refine aw_iaddV (npc := 31) (v := 12) dX8_has_30 rfl (by decide) ?_
  refine aw_iload_n (npc := 32) rfl dX8_has_31 rfl ?_
  refine aw_iaddV (npc := 33) (v := 14) dX8_has_32 rfl (by decide) ?_
  refine aw_iald (npc := 34) (x := 1) (j := 14) dX8_has_33 rfl g70 ⟨by decide, by decide⟩ rfl ?_
  refine aw_iload_n (npc := 35) rfl dX8_has_34 rfl ?_
  refine aw_if_ne (npc := 38) (tgt := 43) dX8_has_35 rfl (by decide) (fun hc => absurd (by decide) hc) (fun _ => ?_)
  refine aw_iload (npc := 40) rfl dX8_has_38 rfl ?_
  refine aw_goto (npc := 48) dX8_has_40 (by decide) ?_
  refine aw_imulV (npc := 49) (v := 5) dX8_has_48 rfl (by decide) ?_
  refine aw_iaddV (npc := 50) (v := 15) dX8_has_49 rfl (by decide) ?_
  refine aw_istore_n (npc := 51) (L' := [some (.ref 69), some (.int 0), some (.int 15), some (.int 2), some (.int 5)]) dX8_has_50 rfl (by decide) rfl rfl ?_
  refine aw_iinc (npc := 54) (v := 3) (L' := [some (.ref 69), some (.int 0), some (.int 15), some (.int 3), some (.int 5)]) dX8_has_51 rfl rfl (by decide) (by decide) rfl rfl ?_
  refine aw_goto (npc := 4) dX8_has_54 (by decide) ?_
  refine aw_iload_n (npc := 5) rfl dX8_has_4 rfl ?_
  refine aw_iconst (npc := 6) (v := 4) (by decide) dX8_has_5 rfl ?_
  refine aw_icmp_ge (npc := 9) (tgt := 57) dX8_has_6 rfl (by decide) (fun hc => absurd hc (by decide)) (fun _ => ?_)
  refine aw_aload_n (npc := 10) rfl dX8_has_9 rfl ?_
  refine aw_get (npc := 13) dX8_has_10 rfl kf_X8_9 g69 rfl ?_
  refine aw_bipush (npc := 15) (v := 8) (by decide) dX8_has_13 rfl ?_
  refine aw_iload_n (npc := 16) rfl dX8_has_15 rfl ?_
  refine aw_iaddV (npc := 17) (v := 11) dX8_has_16 rfl (by decide) ?_
  refine aw_iald (npc := 18) (x := 5) (j := 11) dX8_has_17 rfl g70 ⟨by decide, by decide⟩ rfl ?_
  refine aw_istore (npc := 20) (L' := [some (.ref 69), some (.int 0), some (.int 15), some (.int 3), some (.int 5)]) dX8_has_18 rfl (by decide) rfl rfl ?_
  refine aw_iload_n (npc := 21) rfl dX8_has_20 rfl ?_
  refine aw_aload_n (npc := 22) rfl dX8_has_21 rfl ?_
  refine aw_get (npc := 25) dX8_has_22 rfl kf_X8_9 g69 rfl ?_
  refine aw_bipush (npc := 27) (v := 12) (by decide) dX8_has_25 rfl ?_
  refine aw_iconst (npc := 28) (v := 4) (by decide) dX8_has_27 rfl ?_
  refine aw_iload_n (npc := 29) rfl dX8_has_28 rfl ?_
  refine aw_imulV (npc := 30) (v := 0) dX8_has_29 rfl (by decide) ?_
  refine aw_iaddV (npc := 31) (v := 12) dX8_has_30 rfl (by decide) ?_
  refine aw_iload_n (npc := 32) rfl dX8_has_31 rfl ?_
  refine aw_iaddV (npc := 33) (v := 15) dX8_has_32 rfl (by decide) ?_
  refine aw_iald (npc := 34) (x := 1) (j := 15) dX8_has_33 rfl g70 ⟨by decide, by decide⟩ rfl ?_
  refine aw_iload_n (npc := 35) rfl dX8_has_34 rfl ?_
  refine aw_if_ne (npc := 38) (tgt := 43) dX8_has_35 rfl (by decide) (fun hc => absurd (by decide) hc) (fun _ => ?_)
  refine aw_iload (npc := 40) rfl dX8_has_38 rfl ?_
  refine aw_goto (npc := 48) dX8_has_40 (by decide) ?_
  refine aw_imulV (npc := 49) (v := 5) dX8_has_48 rfl (by decide) ?_
  refine aw_iaddV (npc := 50) (v := 20) dX8_has_49 rfl (by decide) ?_
  refine aw_istore_n (npc := 51) (L' := [some (.ref 69), some (.int 0), some (.int 20), some (.int 3), some (.int 5)]) dX8_has_50 rfl (by decide) rfl rfl ?_
  refine aw_iinc (npc := 54) (v := 4) (L' := [some (.ref 69), some (.int 0), some (.int 20), some (.int 4), some (.int 5)]) dX8_has_51 rfl rfl (by decide) (by decide) rfl rfl ?_
  refine aw_goto (npc := 4) dX8_has_54 (by decide) ?_
  refine aw_iload_n (npc := 5) rfl dX8_has_4 rfl ?_
  refine aw_iconst (npc := 6) (v := 4) (by decide) dX8_has_5 rfl ?_
  refine aw_icmp_ge (npc := 9) (tgt := 57) dX8_has_6 rfl (by decide) (fun _ => ?_) (fun hc => absurd (by decide) hc)
  refine aw_iload_n (npc := 58) rfl dX8_has_57 rfl ?_
  refine aw_iret rfl dX8_has_58 ?_
  refine aw_re (S' := [.int 20]) rfl ?_
  refine aw_aload_n (npc := 6) rfl dX8_isPeace_5 rfl ?_
  refine aw_get (npc := 9) dX8_isPeace_6 rfl kf_X8_9 g69 rfl ?_
  refine aw_bipush (npc := 11) (v := 20) (by decide) dX8_isPeace_9 rfl ?_
  refine aw_iald (npc := 12) (x := 20) (j := 20) dX8_isPeace_11 rfl g70 ⟨by decide, by decide⟩ rfl ?_
  refine aw_icmp_lt (npc := 15) (tgt := 34) dX8_isPeace_12 rfl (by decide) (fun hc => absurd hc (by decide)) (fun _ => ?_)
  refine aw_aload_n (npc := 16) rfl dX8_isPeace_15 rfl ?_
  refine aw_iconst (npc := 17) (v := 1) (by decide) dX8_isPeace_16 rfl ?_
  refine aw_callV (npc := 20) (N := mX8_has) (b := 69) (mc := 0) (ms := 0) (A := [.int 1]) (S := []) (L0 := [some (.ref 69), some (.int 1), none, none, none]) dX8_isPeace_17 rfl km_X8_has kk_X8_143 g69 ⟨by decide, rfl⟩ rfl ⟨rfl, by decide⟩ rfl (Nat.le_of_ble_eq_true rfl) (Nat.zero_add _) (Nat.zero_add _) rfl ?_
  refine aw_iconst (npc := 1) (v := 0) (by decide) dX8_has_0 rfl ?_
  refine aw_istore_n (npc := 2) (L' := [some (.ref 69), some (.int 1), some (.int 0), none, none]) dX8_has_1 rfl (by decide) rfl rfl ?_
  refine aw_iconst (npc := 3) (v := 0) (by decide) dX8_has_2 rfl ?_
  refine aw_istore_n (npc := 4) (L' := [some (.ref 69), some (.int 1), some (.int 0), some (.int 0), none]) dX8_has_3 rfl (by decide) rfl rfl ?_
  refine aw_iload_n (npc := 5) rfl dX8_has_4 rfl ?_
  refine aw_iconst (npc := 6) (v := 4) (by decide) dX8_has_5 rfl ?_
  refine aw_icmp_ge (npc := 9) (tgt := 57) dX8_has_6 rfl (by decide) (fun hc => absurd hc (by decide)) (fun _ => ?_)
  refine aw_aload_n (npc := 10) rfl dX8_has_9 rfl ?_
  refine aw_get (npc := 13) dX8_has_10 rfl kf_X8_9 g69 rfl ?_
  refine aw_bipush (npc := 15) (v := 8) (by decide) dX8_has_13 rfl ?_
  refine aw_iload_n (npc := 16) rfl dX8_has_15 rfl ?_
  refine aw_iaddV (npc := 17) (v := 8) dX8_has_16 rfl (by decide) ?_
  refine aw_iald (npc := 18) (x := 5) (j := 8) dX8_has_17 rfl g70 ⟨by decide, by decide⟩ rfl ?_
  refine aw_istore (npc := 20) (L' := [some (.ref 69), some (.int 1), some (.int 0), some (.int 0), some (.int 5)]) dX8_has_18 rfl (by decide) rfl rfl ?_
  refine aw_iload_n (npc := 21) rfl dX8_has_20 rfl ?_
  refine aw_aload_n (npc := 22) rfl dX8_has_21 rfl ?_
  refine aw_get (npc := 25) dX8_has_22 rfl kf_X8_9 g69 rfl ?_
  refine aw_bipush (npc := 27) (v := 12) (by decide) dX8_has_25 rfl ?_
  refine aw_iconst (npc := 28) (v := 4) (by decide) dX8_has_27 rfl ?_
  refine aw_iload_n (npc := 29) rfl dX8_has_28 rfl ?_
  refine aw_imulV (npc := 30) (v := 4) dX8_has_29 rfl (by decide) ?_
  refine aw_iaddV (npc := 31) (v := 16) dX8_has_30 rfl (by decide) ?_
  refine aw_iload_n (npc := 32) rfl dX8_has_31 rfl ?_
  refine aw_iaddV (npc := 33) (v := 16) dX8_has_32 rfl (by decide) ?_
  refine aw_iald (npc := 34) (x := 1) (j := 16) dX8_has_33 rfl g70 ⟨by decide, by decide⟩ rfl ?_
  refine aw_iload_n (npc := 35) rfl dX8_has_34 rfl ?_
  refine aw_if_ne (npc := 38) (tgt := 43) dX8_has_35 rfl (by decide) (fun _ => ?_) (fun hc => absurd hc (by decide))
  refine aw_bipush (npc := 45) (v := 9) (by decide) dX8_has_43 rfl ?_
  refine aw_iload (npc := 47) rfl dX8_has_45 rfl ?_
  refine aw_isubV (npc := 48) (v := 4) dX8_has_47 rfl (by decide) ?_
  refine aw_imulV (npc := 49) (v := 4) dX8_has_48 rfl (by decide) ?_
  refine aw_iaddV (npc := 50) (v := 4) dX8_has_49 rfl (by decide) ?_
  refine aw_istore_n (npc := 51) (L' := [some (.ref 69), some (.int 1), some (.int 4), some (.int 0), some (.int 5)]) dX8_has_50 rfl (by decide) rfl rfl ?_
  refine aw_iinc (npc := 54) (v := 1) (L' := [some (.ref 69), some (.int 1), some (.int 4), some (.int 1), some (.int 5)]) dX8_has_51 rfl rfl (by decide) (by decide) rfl rfl ?_
  refine aw_goto (npc := 4) dX8_has_54 (by decide) ?_
  refine aw_iload_n (npc := 5) rfl dX8_has_4 rfl ?_
  refine aw_iconst (npc := 6) (v := 4) (by decide) dX8_has_5 rfl ?_
  refine aw_icmp_ge (npc := 9) (tgt := 57) dX8_has_6 rfl (by decide) (fun hc => absurd hc (by decide)) (fun _ => ?_)
  refine aw_aload_n (npc := 10) rfl dX8_has_9 rfl ?_
  refine aw_get (npc := 13) dX8_has_10 rfl kf_X8_9 g69 rfl ?_
  refine aw_bipush (npc := 15) (v := 8) (by decide) dX8_has_13 rfl ?_
  refine aw_iload_n (npc := 16) rfl dX8_has_15 rfl ?_
  refine aw_iaddV (npc := 17) (v := 9) dX8_has_16 rfl (by decide) ?_
  refine aw_iald (npc := 18) (x := 5) (j := 9) dX8_has_17 rfl g70 ⟨by decide, by decide⟩ rfl ?_
  refine aw_istore (npc := 20) (L' := [some (.ref 69), some (.int 1), some (.int 4), some (.int 1), some (.int 5)]) dX8_has_18 rfl (by decide) rfl rfl ?_
  refine aw_iload_n (npc := 21) rfl dX8_has_20 rfl ?_
  refine aw_aload_n (npc := 22) rfl dX8_has_21 rfl ?_
  refine aw_get (npc := 25) dX8_has_22 rfl kf_X8_9 g69 rfl ?_
  refine aw_bipush (npc := 27) (v := 12) (by decide) dX8_has_25 rfl ?_
  refine aw_iconst (npc := 28) (v := 4) (by decide) dX8_has_27 rfl ?_
  refine aw_iload_n (npc := 29) rfl dX8_has_28 rfl ?_
  refine aw_imulV (npc := 30) (v := 4) dX8_has_29 rfl (by decide) ?_
  refine aw_iaddV (npc := 31) (v := 16) dX8_has_30 rfl (by decide) ?_
  refine aw_iload_n (npc := 32) rfl dX8_has_31 rfl ?_
  refine aw_iaddV (npc := 33) (v := 17) dX8_has_32 rfl (by decide) ?_
  refine aw_iald (npc := 34) (x := 1) (j := 17) dX8_has_33 rfl g70 ⟨by decide, by decide⟩ rfl ?_
  refine aw_iload_n (npc := 35) rfl dX8_has_34 rfl ?_
  refine aw_if_ne (npc := 38) (tgt := 43) dX8_has_35 rfl (by decide) (fun _ => ?_) (fun hc => absurd hc (by decide))
  refine aw_bipush (npc := 45) (v := 9) (by decide) dX8_has_43 rfl ?_
  refine aw_iload (npc := 47) rfl dX8_has_45 rfl ?_
  refine aw_isubV (npc := 48) (v := 4) dX8_has_47 rfl (by decide) ?_
  refine aw_imulV (npc := 49) (v := 4) dX8_has_48 rfl (by decide) ?_
  refine aw_iaddV (npc := 50) (v := 8) dX8_has_49 rfl (by decide) ?_
  refine aw_istore_n (npc := 51) (L' := [some (.ref 69), some (.int 1), some (.int 8), some (.int 1), some (.int 5)]) dX8_has_50 rfl (by decide) rfl rfl ?_
  refine aw_iinc (npc := 54) (v := 2) (L' := [some (.ref 69), some (.int 1), some (.int 8), some (.int 2), some (.int 5)]) dX8_has_51 rfl rfl (by decide) (by decide) rfl rfl ?_
  refine aw_goto (npc := 4) dX8_has_54 (by decide) ?_
  refine aw_iload_n (npc := 5) rfl dX8_has_4 rfl ?_
  refine aw_iconst (npc := 6) (v := 4) (by decide) dX8_has_5 rfl ?_
  refine aw_icmp_ge (npc := 9) (tgt := 57) dX8_has_6 rfl (by decide) (fun hc => absurd hc (by decide)) (fun _ => ?_)
  refine aw_aload_n (npc := 10) rfl dX8_has_9 rfl ?_
  refine aw_get (npc := 13) dX8_has_10 rfl kf_X8_9 g69 rfl ?_
  refine aw_bipush (npc := 15) (v := 8) (by decide) dX8_has_13 rfl ?_
  refine aw_iload_n (npc := 16) rfl dX8_has_15 rfl ?_
  refine aw_iaddV (npc := 17) (v := 10) dX8_has_16 rfl (by decide) ?_
  refine aw_iald (npc := 18) (x := 5) (j := 10) dX8_has_17 rfl g70 ⟨by decide, by decide⟩ rfl ?_
  refine aw_istore (npc := 20) (L' := [some (.ref 69), some (.int 1), some (.int 8), some (.int 2), some (.int 5)]) dX8_has_18 rfl (by decide) rfl rfl ?_
  refine aw_iload_n (npc := 21) rfl dX8_has_20 rfl ?_
  refine aw_aload_n (npc := 22) rfl dX8_has_21 rfl ?_
  refine aw_get (npc := 25) dX8_has_22 rfl kf_X8_9 g69 rfl ?_
  refine aw_bipush (npc := 27) (v := 12) (by decide) dX8_has_25 rfl ?_
  refine aw_iconst (npc := 28) (v := 4) (by decide) dX8_has_27 rfl ?_
  refine aw_iload_n (npc := 29) rfl dX8_has_28 rfl ?_
  refine aw_imulV (npc := 30) (v := 4) dX8_has_29 rfl (by decide) ?_
  refine aw_iaddV (npc := 31) (v := 16) dX8_has_30 rfl (by decide) ?_
  refine aw_iload_n (npc := 32) rfl dX8_has_31 rfl ?_
  refine aw_iaddV (npc := 33) (v := 18) dX8_has_32 rfl (by decide) ?_
  refine aw_iald (npc := 34) (x := 1) (j := 18) dX8_has_33 rfl g70 ⟨by decide, by decide⟩ rfl ?_
  refine aw_iload_n (npc := 35) rfl dX8_has_34 rfl ?_
  refine aw_if_ne (npc := 38) (tgt := 43) dX8_has_35 rfl (by decide) (fun _ => ?_) (fun hc => absurd hc (by decide))
  refine aw_bipush (npc := 45) (v := 9) (by decide) dX8_has_43 rfl ?_
  refine aw_iload (npc := 47) rfl dX8_has_45 rfl ?_
  refine aw_isubV (npc := 48) (v := 4) dX8_has_47 rfl (by decide) ?_
  refine aw_imulV (npc := 49) (v := 4) dX8_has_48 rfl (by decide) ?_
  refine aw_iaddV (npc := 50) (v := 12) dX8_has_49 rfl (by decide) ?_
  refine aw_istore_n (npc := 51) (L' := [some (.ref 69), some (.int 1), some (.int 12), some (.int 2), some (.int 5)]) dX8_has_50 rfl (by decide) rfl rfl ?_
  refine aw_iinc (npc := 54) (v := 3) (L' := [some (.ref 69), some (.int 1), some (.int 12), some (.int 3), some (.int 5)]) dX8_has_51 rfl rfl (by decide) (by decide) rfl rfl ?_
  refine aw_goto (npc := 4) dX8_has_54 (by decide) ?_
  refine aw_iload_n (npc := 5) rfl dX8_has_4 rfl ?_
  refine aw_iconst (npc := 6) (v := 4) (by decide) dX8_has_5 rfl ?_
  refine aw_icmp_ge (npc := 9) (tgt := 57) dX8_has_6 rfl (by decide) (fun hc => absurd hc (by decide)) (fun _ => ?_)
  refine aw_aload_n (npc := 10) rfl dX8_has_9 rfl ?_
  refine aw_get (npc := 13) dX8_has_10 rfl kf_X8_9 g69 rfl ?_
  refine aw_bipush (npc := 15) (v := 8) (by decide) dX8_has_13 rfl ?_
  refine aw_iload_n (npc := 16) rfl dX8_has_15 rfl ?_
  refine aw_iaddV (npc := 17) (v := 11) dX8_has_16 rfl (by decide) ?_
  refine aw_iald (npc := 18) (x := 5) (j := 11) dX8_has_17 rfl g70 ⟨by decide, by decide⟩ rfl ?_
  refine aw_istore (npc := 20) (L' := [some (.ref 69), some (.int 1), some (.int 12), some (.int 3), some (.int 5)]) dX8_has_18 rfl (by decide) rfl rfl ?_
  refine aw_iload_n (npc := 21) rfl dX8_has_20 rfl ?_
  refine aw_aload_n (npc := 22) rfl dX8_has_21 rfl ?_
  refine aw_get (npc := 25) dX8_has_22 rfl kf_X8_9 g69 rfl ?_
  refine aw_bipush (npc := 27) (v := 12) (by decide) dX8_has_25 rfl ?_
  refine aw_iconst (npc := 28) (v := 4) (by decide) dX8_has_27 rfl ?_
  refine aw_iload_n (npc := 29) rfl dX8_has_28 rfl ?_
  refine aw_imulV (npc := 30) (v := 4) dX8_has_29 rfl (by decide) ?_
  refine aw_iaddV (npc := 31) (v := 16) dX8_has_30 rfl (by decide) ?_
  refine aw_iload_n (npc := 32) rfl dX8_has_31 rfl ?_
  refine aw_iaddV (npc := 33) (v := 19) dX8_has_32 rfl (by decide) ?_
  refine aw_iald (npc := 34) (x := 1) (j := 19) dX8_has_33 rfl g70 ⟨by decide, by decide⟩ rfl ?_
  refine aw_iload_n (npc := 35) rfl dX8_has_34 rfl ?_
  refine aw_if_ne (npc := 38) (tgt := 43) dX8_has_35 rfl (by decide) (fun _ => ?_) (fun hc => absurd hc (by decide))
  refine aw_bipush (npc := 45) (v := 9) (by decide) dX8_has_43 rfl ?_
  refine aw_iload (npc := 47) rfl dX8_has_45 rfl ?_
  refine aw_isubV (npc := 48) (v := 4) dX8_has_47 rfl (by decide) ?_
  refine aw_imulV (npc := 49) (v := 4) dX8_has_48 rfl (by decide) ?_
  refine aw_iaddV (npc := 50) (v := 16) dX8_has_49 rfl (by decide) ?_
  refine aw_istore_n (npc := 51) (L' := [some (.ref 69), some (.int 1), some (.int 16), some (.int 3), some (.int 5)]) dX8_has_50 rfl (by decide) rfl rfl ?_
  refine aw_iinc (npc := 54) (v := 4) (L' := [some (.ref 69), some (.int 1), some (.int 16), some (.int 4), some (.int 5)]) dX8_has_51 rfl rfl (by decide) (by decide) rfl rfl ?_
  refine aw_goto (npc := 4) dX8_has_54 (by decide) ?_
  refine aw_iload_n (npc := 5) rfl dX8_has_4 rfl ?_
  refine aw_iconst (npc := 6) (v := 4) (by decide) dX8_has_5 rfl ?_
  refine aw_icmp_ge (npc := 9) (tgt := 57) dX8_has_6 rfl (by decide) (fun _ => ?_) (fun hc => absurd (by decide) hc)
  refine aw_iload_n (npc := 58) rfl dX8_has_57 rfl ?_
  refine aw_iret rfl dX8_has_58 ?_
  refine aw_re (S' := [.int 16]) rfl ?_
  refine aw_aload_n (npc := 21) rfl dX8_isPeace_20 rfl ?_
  refine aw_get (npc := 24) dX8_isPeace_21 rfl kf_X8_9 g69 rfl ?_
  refine aw_bipush (npc := 26) (v := 21) (by decide) dX8_isPeace_24 rfl ?_
  refine aw_iald (npc := 27) (x := 20) (j := 21) dX8_isPeace_26 rfl g70 ⟨by decide, by decide⟩ rfl ?_
  refine aw_icmp_lt (npc := 30) (tgt := 34) dX8_isPeace_27 rfl (by decide) (fun _ => ?_) (fun hc => absurd (by decide) hc)
  refine aw_iconst (npc := 35) (v := 0) (by decide) dX8_isPeace_34 rfl ?_
  refine aw_zret rfl rfl dX8_isPeace_35 ?_
  exact hq
set_option maxHeartbeats 40000000 in
set_option maxRecDepth 100000 in
theorem p_mpD {X : List Int32} {d rc rs nn : Nat} {Q : am_Q} {si hot hv pt : Int32} {a b c e : Nat} (u1 : a ≤ 9) (u2 : b ≤ 9) (u3 : c ≤ 9) (u4 : e ≤ 9) {bf : List Int32} {h : am_H} (F : fm si hot hv pt (nI a) (nI b) (nI c) (nI e) bf h) (hq : Q (some (.int 0)) nn h) : AW X mX8_isPeace (d + 4) rc rs 0 [some (.ref 69)] [] nn h Q := by
  obtain ⟨g69, g70, g73, g74⟩ := F
  refine aw_aload_n (npc := 1) rfl dX8_isPeace_0 rfl ?_
  refine aw_iconst (npc := 2) (v := 0) (by decide) dX8_isPeace_1 rfl ?_
  refine aw_callV (npc := 5) (N := mX8_has) (b := 69) (mc := 0) (ms := 0) (A := [.int 0]) (S := []) (L0 := [some (.ref 69), some (.int 0), none, none, none]) dX8_isPeace_2 rfl km_X8_has kk_X8_143 g69 ⟨by decide, rfl⟩ rfl ⟨rfl, by decide⟩ rfl (Nat.le_of_ble_eq_true rfl) (Nat.zero_add _) (Nat.zero_add _) rfl ?_
  refine aw_iconst (npc := 1) (v := 0) (by decide) dX8_has_0 rfl ?_
  refine aw_istore_n (npc := 2) (L' := [some (.ref 69), some (.int 0), some (.int 0), none, none]) dX8_has_1 rfl (by decide) rfl rfl ?_
  refine aw_iconst (npc := 3) (v := 0) (by decide) dX8_has_2 rfl ?_
  refine aw_istore_n (npc := 4) (L' := [some (.ref 69), some (.int 0), some (.int 0), some (.int 0), none]) dX8_has_3 rfl (by decide) rfl rfl ?_
  refine aw_iload_n (npc := 5) rfl dX8_has_4 rfl ?_
  refine aw_iconst (npc := 6) (v := 4) (by decide) dX8_has_5 rfl ?_
  refine aw_icmp_ge (npc := 9) (tgt := 57) dX8_has_6 rfl (by decide) (fun hc => absurd hc (by decide)) (fun _ => ?_)
  refine aw_aload_n (npc := 10) rfl dX8_has_9 rfl ?_
  refine aw_get (npc := 13) dX8_has_10 rfl kf_X8_9 g69 rfl ?_
  refine aw_bipush (npc := 15) (v := 8) (by decide) dX8_has_13 rfl ?_
  refine aw_iload_n (npc := 16) rfl dX8_has_15 rfl ?_
  refine aw_iaddV (npc := 17) (v := 8) dX8_has_16 rfl (by decide) ?_
  refine aw_iald (npc := 18) (x := nI a) (j := 8) dX8_has_17 rfl g70 ⟨by decide, by decide⟩ rfl ?_
  refine aw_istore (npc := 20) (L' := [some (.ref 69), some (.int 0), some (.int 0), some (.int 0), some (.int (nI a))]) dX8_has_18 rfl (by decide) rfl rfl ?_
  refine aw_iload_n (npc := 21) rfl dX8_has_20 rfl ?_
  refine aw_aload_n (npc := 22) rfl dX8_has_21 rfl ?_
  refine aw_get (npc := 25) dX8_has_22 rfl kf_X8_9 g69 rfl ?_
  refine aw_bipush (npc := 27) (v := 12) (by decide) dX8_has_25 rfl ?_
  refine aw_iconst (npc := 28) (v := 4) (by decide) dX8_has_27 rfl ?_
  refine aw_iload_n (npc := 29) rfl dX8_has_28 rfl ?_
  refine aw_imulV (npc := 30) (v := 0) dX8_has_29 rfl (by decide) ?_
  refine aw_iaddV (npc := 31) (v := 12) dX8_has_30 rfl (by decide) ?_
  refine aw_iload_n (npc := 32) rfl dX8_has_31 rfl ?_
  refine aw_iaddV (npc := 33) (v := 12) dX8_has_32 rfl (by decide) ?_
  refine aw_iald (npc := 34) (x := 1) (j := 12) dX8_has_33 rfl g70 ⟨by decide, by decide⟩ rfl ?_
  refine aw_iload_n (npc := 35) rfl dX8_has_34 rfl ?_
  refine aw_if_ne (npc := 38) (tgt := 43) dX8_has_35 rfl (by decide) (fun hc => absurd (by decide) hc) (fun _ => ?_)
  refine aw_iload (npc := 40) rfl dX8_has_38 rfl ?_
  refine aw_goto (npc := 48) dX8_has_40 (by decide) ?_
  refine aw_imulV (npc := 49) (v := nI a) dX8_has_48 rfl (Int32.one_mul _) ?_
  refine aw_iaddV (npc := 50) (v := nI a) dX8_has_49 rfl (Int32.zero_add _) ?_
  refine aw_istore_n (npc := 51) (L' := [some (.ref 69), some (.int 0), some (.int (nI a)), some (.int 0), some (.int (nI a))]) dX8_has_50 rfl (by decide) rfl rfl ?_
  refine aw_iinc (npc := 54) (v := 1) (L' := [some (.ref 69), some (.int 0), some (.int (nI a)), some (.int 1), some (.int (nI a))]) dX8_has_51 rfl rfl (by decide) (by decide) rfl rfl ?_
  refine aw_goto (npc := 4) dX8_has_54 (by decide) ?_
  refine aw_iload_n (npc := 5) rfl dX8_has_4 rfl ?_
  refine aw_iconst (npc := 6) (v := 4) (by decide) dX8_has_5 rfl ?_
  refine aw_icmp_ge (npc := 9) (tgt := 57) dX8_has_6 rfl (by decide) (fun hc => absurd hc (by decide)) (fun _ => ?_)
  refine aw_aload_n (npc := 10) rfl dX8_has_9 rfl ?_
  refine aw_get (npc := 13) dX8_has_10 rfl kf_X8_9 g69 rfl ?_
  refine aw_bipush (npc := 15) (v := 8) (by decide) dX8_has_13 rfl ?_
  refine aw_iload_n (npc := 16) rfl dX8_has_15 rfl ?_
  refine aw_iaddV (npc := 17) (v := 9) dX8_has_16 rfl (by decide) ?_
  refine aw_iald (npc := 18) (x := nI b) (j := 9) dX8_has_17 rfl g70 ⟨by decide, by decide⟩ rfl ?_
  refine aw_istore (npc := 20) (L' := [some (.ref 69), some (.int 0), some (.int (nI a)), some (.int 1), some (.int (nI b))]) dX8_has_18 rfl (by decide) rfl rfl ?_
  refine aw_iload_n (npc := 21) rfl dX8_has_20 rfl ?_
  refine aw_aload_n (npc := 22) rfl dX8_has_21 rfl ?_
  refine aw_get (npc := 25) dX8_has_22 rfl kf_X8_9 g69 rfl ?_
  refine aw_bipush (npc := 27) (v := 12) (by decide) dX8_has_25 rfl ?_
  refine aw_iconst (npc := 28) (v := 4) (by decide) dX8_has_27 rfl ?_
  refine aw_iload_n (npc := 29) rfl dX8_has_28 rfl ?_
  refine aw_imulV (npc := 30) (v := 0) dX8_has_29 rfl (by decide) ?_
  refine aw_iaddV (npc := 31) (v := 12) dX8_has_30 rfl (by decide) ?_
  refine aw_iload_n (npc := 32) rfl dX8_has_31 rfl ?_
  refine aw_iaddV (npc := 33) (v := 13) dX8_has_32 rfl (by decide) ?_
  refine aw_iald (npc := 34) (x := 1) (j := 13) dX8_has_33 rfl g70 ⟨by decide, by decide⟩ rfl ?_
  refine aw_iload_n (npc := 35) rfl dX8_has_34 rfl ?_
  refine aw_if_ne (npc := 38) (tgt := 43) dX8_has_35 rfl (by decide) (fun hc => absurd (by decide) hc) (fun _ => ?_)
  refine aw_iload (npc := 40) rfl dX8_has_38 rfl ?_
  refine aw_goto (npc := 48) dX8_has_40 (by decide) ?_
  refine aw_imulV (npc := 49) (v := nI b) dX8_has_48 rfl (Int32.one_mul _) ?_
  refine aw_iaddV (npc := 50) (v := nI (a + b)) dX8_has_49 rfl (nI_add _ _) ?_
  refine aw_istore_n (npc := 51) (L' := [some (.ref 69), some (.int 0), some (.int (nI (a + b))), some (.int 1), some (.int (nI b))]) dX8_has_50 rfl (by decide) rfl rfl ?_
  refine aw_iinc (npc := 54) (v := 2) (L' := [some (.ref 69), some (.int 0), some (.int (nI (a + b))), some (.int 2), some (.int (nI b))]) dX8_has_51 rfl rfl (by decide) (by decide) rfl rfl ?_
  refine aw_goto (npc := 4) dX8_has_54 (by decide) ?_
  refine aw_iload_n (npc := 5) rfl dX8_has_4 rfl ?_
  refine aw_iconst (npc := 6) (v := 4) (by decide) dX8_has_5 rfl ?_
  refine aw_icmp_ge (npc := 9) (tgt := 57) dX8_has_6 rfl (by decide) (fun hc => absurd hc (by decide)) (fun _ => ?_)
  refine aw_aload_n (npc := 10) rfl dX8_has_9 rfl ?_
  refine aw_get (npc := 13) dX8_has_10 rfl kf_X8_9 g69 rfl ?_
  refine aw_bipush (npc := 15) (v := 8) (by decide) dX8_has_13 rfl ?_
  refine aw_iload_n (npc := 16) rfl dX8_has_15 rfl ?_
  refine aw_iaddV (npc := 17) (v := 10) dX8_has_16 rfl (by decide) ?_
  refine aw_iald (npc := 18) (x := nI c) (j := 10) dX8_has_17 rfl g70 ⟨by decide, by decide⟩ rfl ?_
  refine aw_istore (npc := 20) (L' := [some (.ref 69), some (.int 0), some (.int (nI (a + b))), some (.int 2), some (.int (nI c))]) dX8_has_18 rfl (by decide) rfl rfl ?_
  refine aw_iload_n (npc := 21) rfl dX8_has_20 rfl ?_
  refine aw_aload_n (npc := 22) rfl dX8_has_21 rfl ?_
  refine aw_get (npc := 25) dX8_has_22 rfl kf_X8_9 g69 rfl ?_
  refine aw_bipush (npc := 27) (v := 12) (by decide) dX8_has_25 rfl ?_
  refine aw_iconst (npc := 28) (v := 4) (by decide) dX8_has_27 rfl ?_
  refine aw_iload_n (npc := 29) rfl dX8_has_28 rfl ?_
  refine aw_imulV (npc := 30) (v := 0) dX8_has_29 rfl (by decide) ?_
  refine aw_iaddV (npc := 31) (v := 12) dX8_has_30 rfl (by decide) ?_
  refine aw_iload_n (npc := 32) rfl dX8_has_31 rfl ?_
  refine aw_iaddV (npc := 33) (v := 14) dX8_has_32 rfl (by decide) ?_
  refine aw_iald (npc := 34) (x := 1) (j := 14) dX8_has_33 rfl g70 ⟨by decide, by decide⟩ rfl ?_
  refine aw_iload_n (npc := 35) rfl dX8_has_34 rfl ?_
  refine aw_if_ne (npc := 38) (tgt := 43) dX8_has_35 rfl (by decide) (fun hc => absurd (by decide) hc) (fun _ => ?_)
  refine aw_iload (npc := 40) rfl dX8_has_38 rfl ?_
  refine aw_goto (npc := 48) dX8_has_40 (by decide) ?_
  refine aw_imulV (npc := 49) (v := nI c) dX8_has_48 rfl (Int32.one_mul _) ?_
  refine aw_iaddV (npc := 50) (v := nI ((a + b) + c)) dX8_has_49 rfl (nI_add _ _) ?_
  refine aw_istore_n (npc := 51) (L' := [some (.ref 69), some (.int 0), some (.int (nI ((a + b) + c))), some (.int 2), some (.int (nI c))]) dX8_has_50 rfl (by decide) rfl rfl ?_
  refine aw_iinc (npc := 54) (v := 3) (L' := [some (.ref 69), some (.int 0), some (.int (nI ((a + b) + c))), some (.int 3), some (.int (nI c))]) dX8_has_51 rfl rfl (by decide) (by decide) rfl rfl ?_
  refine aw_goto (npc := 4) dX8_has_54 (by decide) ?_
  refine aw_iload_n (npc := 5) rfl dX8_has_4 rfl ?_
  refine aw_iconst (npc := 6) (v := 4) (by decide) dX8_has_5 rfl ?_
  refine aw_icmp_ge (npc := 9) (tgt := 57) dX8_has_6 rfl (by decide) (fun hc => absurd hc (by decide)) (fun _ => ?_)
  refine aw_aload_n (npc := 10) rfl dX8_has_9 rfl ?_
  refine aw_get (npc := 13) dX8_has_10 rfl kf_X8_9 g69 rfl ?_
  refine aw_bipush (npc := 15) (v := 8) (by decide) dX8_has_13 rfl ?_
  refine aw_iload_n (npc := 16) rfl dX8_has_15 rfl ?_
  refine aw_iaddV (npc := 17) (v := 11) dX8_has_16 rfl (by decide) ?_
  refine aw_iald (npc := 18) (x := nI e) (j := 11) dX8_has_17 rfl g70 ⟨by decide, by decide⟩ rfl ?_
  refine aw_istore (npc := 20) (L' := [some (.ref 69), some (.int 0), some (.int (nI ((a + b) + c))), some (.int 3), some (.int (nI e))]) dX8_has_18 rfl (by decide) rfl rfl ?_
  refine aw_iload_n (npc := 21) rfl dX8_has_20 rfl ?_
  refine aw_aload_n (npc := 22) rfl dX8_has_21 rfl ?_
  refine aw_get (npc := 25) dX8_has_22 rfl kf_X8_9 g69 rfl ?_
  refine aw_bipush (npc := 27) (v := 12) (by decide) dX8_has_25 rfl ?_
  refine aw_iconst (npc := 28) (v := 4) (by decide) dX8_has_27 rfl ?_
  refine aw_iload_n (npc := 29) rfl dX8_has_28 rfl ?_
  refine aw_imulV (npc := 30) (v := 0) dX8_has_29 rfl (by decide) ?_
  refine aw_iaddV (npc := 31) (v := 12) dX8_has_30 rfl (by decide) ?_
  refine aw_iload_n (npc := 32) rfl dX8_has_31 rfl ?_
  refine aw_iaddV (npc := 33) (v := 15) dX8_has_32 rfl (by decide) ?_
  refine aw_iald (npc := 34) (x := 1) (j := 15) dX8_has_33 rfl g70 ⟨by decide, by decide⟩ rfl ?_
  refine aw_iload_n (npc := 35) rfl dX8_has_34 rfl ?_
  refine aw_if_ne (npc := 38) (tgt := 43) dX8_has_35 rfl (by decide) (fun hc => absurd (by decide) hc) (fun _ => ?_)
  refine aw_iload (npc := 40) rfl dX8_has_38 rfl ?_
  refine aw_goto (npc := 48) dX8_has_40 (by decide) ?_
  refine aw_imulV (npc := 49) (v := nI e) dX8_has_48 rfl (Int32.one_mul _) ?_
  refine aw_iaddV (npc := 50) (v := nI (((a + b) + c) + e)) dX8_has_49 rfl (nI_add _ _) ?_
  refine aw_istore_n (npc := 51) (L' := [some (.ref 69), some (.int 0), some (.int (nI (((a + b) + c) + e))), some (.int 3), some (.int (nI e))]) dX8_has_50 rfl (by decide) rfl rfl ?_
  refine aw_iinc (npc := 54) (v := 4) (L' := [some (.ref 69), some (.int 0), some (.int (nI (((a + b) + c) + e))), some (.int 4), some (.int (nI e))]) dX8_has_51 rfl rfl (by decide) (by decide) rfl rfl ?_
  refine aw_goto (npc := 4) dX8_has_54 (by decide) ?_
  refine aw_iload_n (npc := 5) rfl dX8_has_4 rfl ?_
  refine aw_iconst (npc := 6) (v := 4) (by decide) dX8_has_5 rfl ?_
  refine aw_icmp_ge (npc := 9) (tgt := 57) dX8_has_6 rfl (by decide) (fun _ => ?_) (fun hc => absurd (by decide) hc)
  refine aw_iload_n (npc := 58) rfl dX8_has_57 rfl ?_
  refine aw_iret rfl dX8_has_58 ?_
  refine aw_re (S' := [.int (nI (((a + b) + c) + e))]) rfl ?_
  refine aw_aload_n (npc := 6) rfl dX8_isPeace_5 rfl ?_
  refine aw_get (npc := 9) dX8_isPeace_6 rfl kf_X8_9 g69 rfl ?_
  refine aw_bipush (npc := 11) (v := 20) (by decide) dX8_isPeace_9 rfl ?_
  refine aw_iald (npc := 12) (x := 20) (j := 20) dX8_isPeace_11 rfl g70 ⟨by decide, by decide⟩ rfl ?_
  refine aw_icmp_lt (npc := 15) (tgt := 34) dX8_isPeace_12 rfl (by decide) (fun hc1 => ?_) (fun hc1 => ?_)
  · refine aw_iconst (npc := 35) (v := 0) (by decide) dX8_isPeace_34 rfl ?_
    refine aw_zret rfl rfl dX8_isPeace_35 ?_
    exact hq
  · refine aw_aload_n (npc := 16) rfl dX8_isPeace_15 rfl ?_
    refine aw_iconst (npc := 17) (v := 1) (by decide) dX8_isPeace_16 rfl ?_
    refine aw_callV (npc := 20) (N := mX8_has) (b := 69) (mc := 0) (ms := 0) (A := [.int 1]) (S := []) (L0 := [some (.ref 69), some (.int 1), none, none, none]) dX8_isPeace_17 rfl km_X8_has kk_X8_143 g69 ⟨by decide, rfl⟩ rfl ⟨rfl, by decide⟩ rfl (Nat.le_of_ble_eq_true rfl) (Nat.zero_add _) (Nat.zero_add _) rfl ?_
    refine aw_iconst (npc := 1) (v := 0) (by decide) dX8_has_0 rfl ?_
    refine aw_istore_n (npc := 2) (L' := [some (.ref 69), some (.int 1), some (.int 0), none, none]) dX8_has_1 rfl (by decide) rfl rfl ?_
    refine aw_iconst (npc := 3) (v := 0) (by decide) dX8_has_2 rfl ?_
    refine aw_istore_n (npc := 4) (L' := [some (.ref 69), some (.int 1), some (.int 0), some (.int 0), none]) dX8_has_3 rfl (by decide) rfl rfl ?_
    refine aw_iload_n (npc := 5) rfl dX8_has_4 rfl ?_
    refine aw_iconst (npc := 6) (v := 4) (by decide) dX8_has_5 rfl ?_
    refine aw_icmp_ge (npc := 9) (tgt := 57) dX8_has_6 rfl (by decide) (fun hc => absurd hc (by decide)) (fun _ => ?_)
    refine aw_aload_n (npc := 10) rfl dX8_has_9 rfl ?_
    refine aw_get (npc := 13) dX8_has_10 rfl kf_X8_9 g69 rfl ?_
    refine aw_bipush (npc := 15) (v := 8) (by decide) dX8_has_13 rfl ?_
    refine aw_iload_n (npc := 16) rfl dX8_has_15 rfl ?_
    refine aw_iaddV (npc := 17) (v := 8) dX8_has_16 rfl (by decide) ?_
    refine aw_iald (npc := 18) (x := nI a) (j := 8) dX8_has_17 rfl g70 ⟨by decide, by decide⟩ rfl ?_
    refine aw_istore (npc := 20) (L' := [some (.ref 69), some (.int 1), some (.int 0), some (.int 0), some (.int (nI a))]) dX8_has_18 rfl (by decide) rfl rfl ?_
    refine aw_iload_n (npc := 21) rfl dX8_has_20 rfl ?_
    refine aw_aload_n (npc := 22) rfl dX8_has_21 rfl ?_
    refine aw_get (npc := 25) dX8_has_22 rfl kf_X8_9 g69 rfl ?_
    refine aw_bipush (npc := 27) (v := 12) (by decide) dX8_has_25 rfl ?_
    refine aw_iconst (npc := 28) (v := 4) (by decide) dX8_has_27 rfl ?_
    refine aw_iload_n (npc := 29) rfl dX8_has_28 rfl ?_
    refine aw_imulV (npc := 30) (v := 4) dX8_has_29 rfl (by decide) ?_
    refine aw_iaddV (npc := 31) (v := 16) dX8_has_30 rfl (by decide) ?_
    refine aw_iload_n (npc := 32) rfl dX8_has_31 rfl ?_
    refine aw_iaddV (npc := 33) (v := 16) dX8_has_32 rfl (by decide) ?_
    refine aw_iald (npc := 34) (x := 1) (j := 16) dX8_has_33 rfl g70 ⟨by decide, by decide⟩ rfl ?_
    refine aw_iload_n (npc := 35) rfl dX8_has_34 rfl ?_
    refine aw_if_ne (npc := 38) (tgt := 43) dX8_has_35 rfl (by decide) (fun _ => ?_) (fun hc => absurd hc (by decide))
    refine aw_bipush (npc := 45) (v := 9) (by decide) dX8_has_43 rfl ?_
    refine aw_iload (npc := 47) rfl dX8_has_45 rfl ?_
    refine aw_isubV (npc := 48) (v := nI (9 - a)) dX8_has_47 rfl (pk_sub (a := 9) (b := a) (by omega)) ?_
    refine aw_imulV (npc := 49) (v := nI (9 - a)) dX8_has_48 rfl (Int32.one_mul _) ?_
    refine aw_iaddV (npc := 50) (v := nI (9 - a)) dX8_has_49 rfl (Int32.zero_add _) ?_
    refine aw_istore_n (npc := 51) (L' := [some (.ref 69), some (.int 1), some (.int (nI (9 - a))), some (.int 0), some (.int (nI a))]) dX8_has_50 rfl (by decide) rfl rfl ?_
    refine aw_iinc (npc := 54) (v := 1) (L' := [some (.ref 69), some (.int 1), some (.int (nI (9 - a))), some (.int 1), some (.int (nI a))]) dX8_has_51 rfl rfl (by decide) (by decide) rfl rfl ?_
    refine aw_goto (npc := 4) dX8_has_54 (by decide) ?_
    refine aw_iload_n (npc := 5) rfl dX8_has_4 rfl ?_
    refine aw_iconst (npc := 6) (v := 4) (by decide) dX8_has_5 rfl ?_
    refine aw_icmp_ge (npc := 9) (tgt := 57) dX8_has_6 rfl (by decide) (fun hc => absurd hc (by decide)) (fun _ => ?_)
    refine aw_aload_n (npc := 10) rfl dX8_has_9 rfl ?_
    refine aw_get (npc := 13) dX8_has_10 rfl kf_X8_9 g69 rfl ?_
    refine aw_bipush (npc := 15) (v := 8) (by decide) dX8_has_13 rfl ?_
    refine aw_iload_n (npc := 16) rfl dX8_has_15 rfl ?_
    refine aw_iaddV (npc := 17) (v := 9) dX8_has_16 rfl (by decide) ?_
    refine aw_iald (npc := 18) (x := nI b) (j := 9) dX8_has_17 rfl g70 ⟨by decide, by decide⟩ rfl ?_
    refine aw_istore (npc := 20) (L' := [some (.ref 69), some (.int 1), some (.int (nI (9 - a))), some (.int 1), some (.int (nI b))]) dX8_has_18 rfl (by decide) rfl rfl ?_
    refine aw_iload_n (npc := 21) rfl dX8_has_20 rfl ?_
    refine aw_aload_n (npc := 22) rfl dX8_has_21 rfl ?_
    refine aw_get (npc := 25) dX8_has_22 rfl kf_X8_9 g69 rfl ?_
    refine aw_bipush (npc := 27) (v := 12) (by decide) dX8_has_25 rfl ?_
    refine aw_iconst (npc := 28) (v := 4) (by decide) dX8_has_27 rfl ?_
    refine aw_iload_n (npc := 29) rfl dX8_has_28 rfl ?_
    refine aw_imulV (npc := 30) (v := 4) dX8_has_29 rfl (by decide) ?_
    refine aw_iaddV (npc := 31) (v := 16) dX8_has_30 rfl (by decide) ?_
    refine aw_iload_n (npc := 32) rfl dX8_has_31 rfl ?_
    refine aw_iaddV (npc := 33) (v := 17) dX8_has_32 rfl (by decide) ?_
    refine aw_iald (npc := 34) (x := 1) (j := 17) dX8_has_33 rfl g70 ⟨by decide, by decide⟩ rfl ?_
    refine aw_iload_n (npc := 35) rfl dX8_has_34 rfl ?_
    refine aw_if_ne (npc := 38) (tgt := 43) dX8_has_35 rfl (by decide) (fun _ => ?_) (fun hc => absurd hc (by decide))
    refine aw_bipush (npc := 45) (v := 9) (by decide) dX8_has_43 rfl ?_
    refine aw_iload (npc := 47) rfl dX8_has_45 rfl ?_
    refine aw_isubV (npc := 48) (v := nI (9 - b)) dX8_has_47 rfl (pk_sub (a := 9) (b := b) (by omega)) ?_
    refine aw_imulV (npc := 49) (v := nI (9 - b)) dX8_has_48 rfl (Int32.one_mul _) ?_
    refine aw_iaddV (npc := 50) (v := nI ((9 - a) + (9 - b))) dX8_has_49 rfl (nI_add _ _) ?_
    refine aw_istore_n (npc := 51) (L' := [some (.ref 69), some (.int 1), some (.int (nI ((9 - a) + (9 - b)))), some (.int 1), some (.int (nI b))]) dX8_has_50 rfl (by decide) rfl rfl ?_
    refine aw_iinc (npc := 54) (v := 2) (L' := [some (.ref 69), some (.int 1), some (.int (nI ((9 - a) + (9 - b)))), some (.int 2), some (.int (nI b))]) dX8_has_51 rfl rfl (by decide) (by decide) rfl rfl ?_
    refine aw_goto (npc := 4) dX8_has_54 (by decide) ?_
    refine aw_iload_n (npc := 5) rfl dX8_has_4 rfl ?_
    refine aw_iconst (npc := 6) (v := 4) (by decide) dX8_has_5 rfl ?_
    refine aw_icmp_ge (npc := 9) (tgt := 57) dX8_has_6 rfl (by decide) (fun hc => absurd hc (by decide)) (fun _ => ?_)
    refine aw_aload_n (npc := 10) rfl dX8_has_9 rfl ?_
    refine aw_get (npc := 13) dX8_has_10 rfl kf_X8_9 g69 rfl ?_
    refine aw_bipush (npc := 15) (v := 8) (by decide) dX8_has_13 rfl ?_
    refine aw_iload_n (npc := 16) rfl dX8_has_15 rfl ?_
    refine aw_iaddV (npc := 17) (v := 10) dX8_has_16 rfl (by decide) ?_
    refine aw_iald (npc := 18) (x := nI c) (j := 10) dX8_has_17 rfl g70 ⟨by decide, by decide⟩ rfl ?_
    refine aw_istore (npc := 20) (L' := [some (.ref 69), some (.int 1), some (.int (nI ((9 - a) + (9 - b)))), some (.int 2), some (.int (nI c))]) dX8_has_18 rfl (by decide) rfl rfl ?_
    refine aw_iload_n (npc := 21) rfl dX8_has_20 rfl ?_
    refine aw_aload_n (npc := 22) rfl dX8_has_21 rfl ?_
    refine aw_get (npc := 25) dX8_has_22 rfl kf_X8_9 g69 rfl ?_
    refine aw_bipush (npc := 27) (v := 12) (by decide) dX8_has_25 rfl ?_
    refine aw_iconst (npc := 28) (v := 4) (by decide) dX8_has_27 rfl ?_
    refine aw_iload_n (npc := 29) rfl dX8_has_28 rfl ?_
    refine aw_imulV (npc := 30) (v := 4) dX8_has_29 rfl (by decide) ?_
    refine aw_iaddV (npc := 31) (v := 16) dX8_has_30 rfl (by decide) ?_
    refine aw_iload_n (npc := 32) rfl dX8_has_31 rfl ?_
    refine aw_iaddV (npc := 33) (v := 18) dX8_has_32 rfl (by decide) ?_
    refine aw_iald (npc := 34) (x := 1) (j := 18) dX8_has_33 rfl g70 ⟨by decide, by decide⟩ rfl ?_
    refine aw_iload_n (npc := 35) rfl dX8_has_34 rfl ?_
    refine aw_if_ne (npc := 38) (tgt := 43) dX8_has_35 rfl (by decide) (fun _ => ?_) (fun hc => absurd hc (by decide))
    refine aw_bipush (npc := 45) (v := 9) (by decide) dX8_has_43 rfl ?_
    refine aw_iload (npc := 47) rfl dX8_has_45 rfl ?_
    refine aw_isubV (npc := 48) (v := nI (9 - c)) dX8_has_47 rfl (pk_sub (a := 9) (b := c) (by omega)) ?_
    refine aw_imulV (npc := 49) (v := nI (9 - c)) dX8_has_48 rfl (Int32.one_mul _) ?_
    refine aw_iaddV (npc := 50) (v := nI (((9 - a) + (9 - b)) + (9 - c))) dX8_has_49 rfl (nI_add _ _) ?_
    refine aw_istore_n (npc := 51) (L' := [some (.ref 69), some (.int 1), some (.int (nI (((9 - a) + (9 - b)) + (9 - c)))), some (.int 2), some (.int (nI c))]) dX8_has_50 rfl (by decide) rfl rfl ?_
    refine aw_iinc (npc := 54) (v := 3) (L' := [some (.ref 69), some (.int 1), some (.int (nI (((9 - a) + (9 - b)) + (9 - c)))), some (.int 3), some (.int (nI c))]) dX8_has_51 rfl rfl (by decide) (by decide) rfl rfl ?_
    refine aw_goto (npc := 4) dX8_has_54 (by decide) ?_
    refine aw_iload_n (npc := 5) rfl dX8_has_4 rfl ?_
    refine aw_iconst (npc := 6) (v := 4) (by decide) dX8_has_5 rfl ?_
    refine aw_icmp_ge (npc := 9) (tgt := 57) dX8_has_6 rfl (by decide) (fun hc => absurd hc (by decide)) (fun _ => ?_)
    refine aw_aload_n (npc := 10) rfl dX8_has_9 rfl ?_
    refine aw_get (npc := 13) dX8_has_10 rfl kf_X8_9 g69 rfl ?_
    refine aw_bipush (npc := 15) (v := 8) (by decide) dX8_has_13 rfl ?_
    refine aw_iload_n (npc := 16) rfl dX8_has_15 rfl ?_
    refine aw_iaddV (npc := 17) (v := 11) dX8_has_16 rfl (by decide) ?_
    refine aw_iald (npc := 18) (x := nI e) (j := 11) dX8_has_17 rfl g70 ⟨by decide, by decide⟩ rfl ?_
    refine aw_istore (npc := 20) (L' := [some (.ref 69), some (.int 1), some (.int (nI (((9 - a) + (9 - b)) + (9 - c)))), some (.int 3), some (.int (nI e))]) dX8_has_18 rfl (by decide) rfl rfl ?_
    refine aw_iload_n (npc := 21) rfl dX8_has_20 rfl ?_
    refine aw_aload_n (npc := 22) rfl dX8_has_21 rfl ?_
    refine aw_get (npc := 25) dX8_has_22 rfl kf_X8_9 g69 rfl ?_
    refine aw_bipush (npc := 27) (v := 12) (by decide) dX8_has_25 rfl ?_
    refine aw_iconst (npc := 28) (v := 4) (by decide) dX8_has_27 rfl ?_
    refine aw_iload_n (npc := 29) rfl dX8_has_28 rfl ?_
    refine aw_imulV (npc := 30) (v := 4) dX8_has_29 rfl (by decide) ?_
    refine aw_iaddV (npc := 31) (v := 16) dX8_has_30 rfl (by decide) ?_
    refine aw_iload_n (npc := 32) rfl dX8_has_31 rfl ?_
    refine aw_iaddV (npc := 33) (v := 19) dX8_has_32 rfl (by decide) ?_
    refine aw_iald (npc := 34) (x := 1) (j := 19) dX8_has_33 rfl g70 ⟨by decide, by decide⟩ rfl ?_
    refine aw_iload_n (npc := 35) rfl dX8_has_34 rfl ?_
    refine aw_if_ne (npc := 38) (tgt := 43) dX8_has_35 rfl (by decide) (fun _ => ?_) (fun hc => absurd hc (by decide))
    refine aw_bipush (npc := 45) (v := 9) (by decide) dX8_has_43 rfl ?_
    refine aw_iload (npc := 47) rfl dX8_has_45 rfl ?_
    refine aw_isubV (npc := 48) (v := nI (9 - e)) dX8_has_47 rfl (pk_sub (a := 9) (b := e) (by omega)) ?_
    refine aw_imulV (npc := 49) (v := nI (9 - e)) dX8_has_48 rfl (Int32.one_mul _) ?_
    refine aw_iaddV (npc := 50) (v := nI ((((9 - a) + (9 - b)) + (9 - c)) + (9 - e))) dX8_has_49 rfl (nI_add _ _) ?_
    refine aw_istore_n (npc := 51) (L' := [some (.ref 69), some (.int 1), some (.int (nI ((((9 - a) + (9 - b)) + (9 - c)) + (9 - e)))), some (.int 3), some (.int (nI e))]) dX8_has_50 rfl (by decide) rfl rfl ?_
    refine aw_iinc (npc := 54) (v := 4) (L' := [some (.ref 69), some (.int 1), some (.int (nI ((((9 - a) + (9 - b)) + (9 - c)) + (9 - e)))), some (.int 4), some (.int (nI e))]) dX8_has_51 rfl rfl (by decide) (by decide) rfl rfl ?_
    refine aw_goto (npc := 4) dX8_has_54 (by decide) ?_
    refine aw_iload_n (npc := 5) rfl dX8_has_4 rfl ?_
    refine aw_iconst (npc := 6) (v := 4) (by decide) dX8_has_5 rfl ?_
    refine aw_icmp_ge (npc := 9) (tgt := 57) dX8_has_6 rfl (by decide) (fun _ => ?_) (fun hc => absurd (by decide) hc)
    refine aw_iload_n (npc := 58) rfl dX8_has_57 rfl ?_
    refine aw_iret rfl dX8_has_58 ?_
    refine aw_re (S' := [.int (nI ((((9 - a) + (9 - b)) + (9 - c)) + (9 - e)))]) rfl ?_
    refine aw_aload_n (npc := 21) rfl dX8_isPeace_20 rfl ?_
    refine aw_get (npc := 24) dX8_isPeace_21 rfl kf_X8_9 g69 rfl ?_
    refine aw_bipush (npc := 26) (v := 21) (by decide) dX8_isPeace_24 rfl ?_
    refine aw_iald (npc := 27) (x := 20) (j := 21) dX8_isPeace_26 rfl g70 ⟨by decide, by decide⟩ rfl ?_
    refine aw_icmp_lt (npc := 30) (tgt := 34) dX8_isPeace_27 rfl (by decide) (fun _ => ?_) (fun hc => absurd (nI_lt (a := ((((9 - a) + (9 - b)) + (9 - c)) + (9 - e))) (b := 20) (by have z9 := nlt20 (by omega) hc1; omega) (by omega)) hc)
    refine aw_iconst (npc := 35) (v := 0) (by decide) dX8_isPeace_34 rfl ?_
    refine aw_zret rfl rfl dX8_isPeace_35 ?_
    exact hq
set_option maxHeartbeats 40000000 in
set_option maxRecDepth 100000 in
theorem p_mpost {X : List Int32} {d rc rs nn : Nat} {Q : am_Q} {si hot hv pt : Int32} {bf : List Int32} {h : am_H} (hh : wi hv 0 99) (F : fm si hot hv pt 5 5 5 5 bf h) (hq : ∀ (hot2 : Int32) (h9 : am_H), fm si hot2 hv (pt + 1) 5 5 5 5 bf h9 → Q none nn h9) : AW X mX8_post (d + 6) rc rs 0 [some (.ref 69), none] [] nn h Q := by
  obtain ⟨g69, g70, g73, g74⟩ := F
  refine aw_aload_n (npc := 1) rfl dX8_post_0 rfl ?_
  refine aw_get (npc := 4) dX8_post_1 rfl kf_X8_9 g69 rfl ?_
  refine aw_iconst (npc := 5) (v := 2) (by decide) dX8_post_4 rfl ?_
  refine aw_dup2 (npc := 6) rfl rfl dX8_post_5 rfl ?_
  refine aw_iald (npc := 7) (x := pt) (j := 2) dX8_post_6 rfl g70 ⟨by decide, by decide⟩ rfl ?_
  refine aw_iconst (npc := 8) (v := 1) (by decide) dX8_post_7 rfl ?_
  refine aw_iadd (npc := 9) dX8_post_8 rfl ?_
  refine aw_iast (npc := 10) (j := 2) dX8_post_9 rfl g70 ⟨by decide, by decide⟩ (Nat.le_of_ble_eq_true rfl) (show _ = am_up _ 70 (.inl (0, nw hv (pt + 1) 5 5 5 5)) from rfl) ?_
  refine aw_aload_n (npc := 11) rfl dX8_post_10 rfl ?_
  refine aw_callV (npc := 14) (N := mX8_isPeace) (b := 69) (mc := 0) (ms := 0) (A := []) (S := []) (L0 := [some (.ref 69)]) dX8_post_11 rfl km_X8_isPeace kk_X8_149 (am_ne (by decide) g69) ⟨by decide, rfl⟩ rfl ⟨rfl, by decide⟩ rfl (Nat.le_of_ble_eq_true rfl) (Nat.zero_add _) (Nat.zero_add _) rfl ?_
  refine p_mp5 ⟨(am_ne (by decide) g69), am_eq, (am_ne (by decide) g73), (am_ne (by decide) g74)⟩ ?_
  refine aw_re (S' := [.int 0]) rfl ?_
  refine aw_if_ne (npc := 17) (tgt := 32) dX8_post_14 rfl (by decide) (fun hc => absurd (by decide) hc) (fun _ => ?_)
  refine aw_aload_n (npc := 18) rfl dX8_post_17 rfl ?_
  refine aw_get (npc := 21) dX8_post_18 rfl kf_X8_9 (am_ne (by decide) g69) rfl ?_
  refine aw_iconst (npc := 22) (v := 3) (by decide) dX8_post_21 rfl ?_
  refine aw_iald (npc := 23) (x := hv) (j := 3) dX8_post_22 rfl am_eq ⟨by decide, by decide⟩ rfl ?_
  refine aw_aload_n (npc := 24) rfl dX8_post_23 rfl ?_
  refine aw_get (npc := 27) dX8_post_24 rfl kf_X8_9 (am_ne (by decide) g69) rfl ?_
  refine aw_iconst (npc := 28) (v := 4) (by decide) dX8_post_27 rfl ?_
  refine aw_iald (npc := 29) (x := 60) (j := 4) dX8_post_28 rfl am_eq ⟨by decide, by decide⟩ rfl ?_
  refine aw_icmp_lt (npc := 32) (tgt := 33) dX8_post_29 rfl (by decide) (fun hc1 => ?_) (fun hc1 => ?_)
  · refine aw_iconst (npc := 34) (v := 0) (by decide) dX8_post_33 rfl ?_
    refine aw_istore_n (npc := 35) (L' := [some (.ref 69), some (.int 0)]) dX8_post_34 rfl (by decide) rfl rfl ?_
    refine aw_iload_n (npc := 36) rfl dX8_post_35 rfl ?_
    refine aw_iconst (npc := 37) (v := 4) (by decide) dX8_post_36 rfl ?_
    refine aw_icmp_ge (npc := 40) (tgt := 53) dX8_post_37 rfl (by decide) (fun hc => absurd hc (by decide)) (fun _ => ?_)
    refine aw_aload_n (npc := 41) rfl dX8_post_40 rfl ?_
    refine aw_get (npc := 44) dX8_post_41 rfl kf_X8_23 (am_ne (by decide) g69) rfl ?_
    refine aw_iload_n (npc := 45) rfl dX8_post_44 rfl ?_
    refine aw_iconst (npc := 46) (v := 0) (by decide) dX8_post_45 rfl ?_
    refine aw_iast (npc := 47) (j := 0) dX8_post_46 rfl (am_ne (by decide) g73) ⟨by decide, by decide⟩ (Nat.le_of_ble_eq_true rfl) (show _ = am_up _ 73 (.inl (0, [0, 0, 0, 0])) from rfl) ?_
    refine aw_iinc (npc := 50) (v := 1) (L' := [some (.ref 69), some (.int 1)]) dX8_post_47 rfl rfl (by decide) (by decide) rfl rfl ?_
    refine aw_goto (npc := 35) dX8_post_50 (by decide) ?_
    refine aw_iload_n (npc := 36) rfl dX8_post_35 rfl ?_
    refine aw_iconst (npc := 37) (v := 4) (by decide) dX8_post_36 rfl ?_
    refine aw_icmp_ge (npc := 40) (tgt := 53) dX8_post_37 rfl (by decide) (fun hc => absurd hc (by decide)) (fun _ => ?_)
    refine aw_aload_n (npc := 41) rfl dX8_post_40 rfl ?_
    refine aw_get (npc := 44) dX8_post_41 rfl kf_X8_23 (am_ne (by decide) (am_ne (by decide) g69)) rfl ?_
    refine aw_iload_n (npc := 45) rfl dX8_post_44 rfl ?_
    refine aw_iconst (npc := 46) (v := 0) (by decide) dX8_post_45 rfl ?_
    refine aw_iast (npc := 47) (j := 1) dX8_post_46 rfl am_eq ⟨by decide, by decide⟩ (Nat.le_of_ble_eq_true rfl) (show _ = am_up _ 73 (.inl (0, [0, 0, 0, 0])) from am_uu) ?_
    refine aw_iinc (npc := 50) (v := 2) (L' := [some (.ref 69), some (.int 2)]) dX8_post_47 rfl rfl (by decide) (by decide) rfl rfl ?_
    refine aw_goto (npc := 35) dX8_post_50 (by decide) ?_
    refine aw_iload_n (npc := 36) rfl dX8_post_35 rfl ?_
    refine aw_iconst (npc := 37) (v := 4) (by decide) dX8_post_36 rfl ?_
    refine aw_icmp_ge (npc := 40) (tgt := 53) dX8_post_37 rfl (by decide) (fun hc => absurd hc (by decide)) (fun _ => ?_)
    refine aw_aload_n (npc := 41) rfl dX8_post_40 rfl ?_
    refine aw_get (npc := 44) dX8_post_41 rfl kf_X8_23 (am_ne (by decide) (am_ne (by decide) g69)) rfl ?_
    refine aw_iload_n (npc := 45) rfl dX8_post_44 rfl ?_
    refine aw_iconst (npc := 46) (v := 0) (by decide) dX8_post_45 rfl ?_
    refine aw_iast (npc := 47) (j := 2) dX8_post_46 rfl am_eq ⟨by decide, by decide⟩ (Nat.le_of_ble_eq_true rfl) (show _ = am_up _ 73 (.inl (0, [0, 0, 0, 0])) from am_uu) ?_
    refine aw_iinc (npc := 50) (v := 3) (L' := [some (.ref 69), some (.int 3)]) dX8_post_47 rfl rfl (by decide) (by decide) rfl rfl ?_
    refine aw_goto (npc := 35) dX8_post_50 (by decide) ?_
    refine aw_iload_n (npc := 36) rfl dX8_post_35 rfl ?_
    refine aw_iconst (npc := 37) (v := 4) (by decide) dX8_post_36 rfl ?_
    refine aw_icmp_ge (npc := 40) (tgt := 53) dX8_post_37 rfl (by decide) (fun hc => absurd hc (by decide)) (fun _ => ?_)
    refine aw_aload_n (npc := 41) rfl dX8_post_40 rfl ?_
    refine aw_get (npc := 44) dX8_post_41 rfl kf_X8_23 (am_ne (by decide) (am_ne (by decide) g69)) rfl ?_
    refine aw_iload_n (npc := 45) rfl dX8_post_44 rfl ?_
    refine aw_iconst (npc := 46) (v := 0) (by decide) dX8_post_45 rfl ?_
    refine aw_iast (npc := 47) (j := 3) dX8_post_46 rfl am_eq ⟨by decide, by decide⟩ (Nat.le_of_ble_eq_true rfl) (show _ = am_up _ 73 (.inl (0, [0, 0, 0, 0])) from am_uu) ?_
    refine aw_iinc (npc := 50) (v := 4) (L' := [some (.ref 69), some (.int 4)]) dX8_post_47 rfl rfl (by decide) (by decide) rfl rfl ?_
    refine aw_goto (npc := 35) dX8_post_50 (by decide) ?_
    refine aw_iload_n (npc := 36) rfl dX8_post_35 rfl ?_
    refine aw_iconst (npc := 37) (v := 4) (by decide) dX8_post_36 rfl ?_
    refine aw_icmp_ge (npc := 40) (tgt := 53) dX8_post_37 rfl (by decide) (fun _ => ?_) (fun hc => absurd (by decide) hc)
    refine aw_aload_n (npc := 54) rfl dX8_post_53 rfl ?_
    refine aw_iconst (npc := 55) (v := 0) (by decide) dX8_post_54 rfl ?_
    refine aw_put (npc := 58) dX8_post_55 rfl kf_X8_146 (am_ne (by decide) (am_ne (by decide) g69)) (Nat.le_of_ble_eq_true rfl) (am_ok_int _) rfl ?_
    refine aw_iconst (npc := 59) (v := 0) (by decide) dX8_post_58 rfl ?_
    refine aw_istore_n (npc := 60) (L' := [some (.ref 69), some (.int 0)]) dX8_post_59 rfl (by decide) rfl rfl ?_
    refine aw_iload_n (npc := 61) rfl dX8_post_60 rfl ?_
    refine aw_aload_n (npc := 62) rfl dX8_post_61 rfl ?_
    refine aw_get (npc := 65) dX8_post_62 rfl kf_X8_9 am_eq rfl ?_
    refine aw_iconst (npc := 66) (v := 1) (by decide) dX8_post_65 rfl ?_
    refine aw_iald (npc := 67) (x := 0) (j := 1) dX8_post_66 rfl (am_ne (by decide) (am_ne (by decide) am_eq)) ⟨by decide, by decide⟩ rfl ?_
    refine aw_icmp_ge (npc := 70) (tgt := 89) dX8_post_67 rfl (by decide) (fun _ => ?_) (fun hc => absurd (by decide) hc)
    refine aw_iconst (npc := 90) (v := 0) (by decide) dX8_post_89 rfl ?_
    refine aw_istore_n (npc := 91) (L' := [some (.ref 69), some (.int 0)]) dX8_post_90 rfl (by decide) rfl rfl ?_
    refine aw_iload_n (npc := 92) rfl dX8_post_91 rfl ?_
    refine aw_iconst (npc := 93) (v := 4) (by decide) dX8_post_92 rfl ?_
    refine aw_icmp_ge (npc := 96) (tgt := 133) dX8_post_93 rfl (by decide) (fun hc => absurd hc (by decide)) (fun _ => ?_)
    refine aw_aload_n (npc := 97) rfl dX8_post_96 rfl ?_
    refine aw_get (npc := 100) dX8_post_97 rfl kf_X8_9 am_eq rfl ?_
    refine aw_bipush (npc := 102) (v := 8) (by decide) dX8_post_100 rfl ?_
    refine aw_iload_n (npc := 103) rfl dX8_post_102 rfl ?_
    refine aw_iaddV (npc := 104) (v := 8) dX8_post_103 rfl (by decide) ?_
    refine aw_aload_n (npc := 105) rfl dX8_post_104 rfl ?_
    refine aw_get (npc := 108) dX8_post_105 rfl kf_X8_9 am_eq rfl ?_
    refine aw_bipush (npc := 110) (v := 8) (by decide) dX8_post_108 rfl ?_
    refine aw_iload_n (npc := 111) rfl dX8_post_110 rfl ?_
    refine aw_iaddV (npc := 112) (v := 8) dX8_post_111 rfl (by decide) ?_
    refine aw_iald (npc := 113) (x := 5) (j := 8) dX8_post_112 rfl (am_ne (by decide) (am_ne (by decide) am_eq)) ⟨by decide, by decide⟩ rfl ?_
    refine aw_aload_n (npc := 114) rfl dX8_post_113 rfl ?_
    refine aw_get (npc := 117) dX8_post_114 rfl kf_X8_23 am_eq rfl ?_
    refine aw_iload_n (npc := 118) rfl dX8_post_117 rfl ?_
    refine aw_iald (npc := 119) (x := 0) (j := 0) dX8_post_118 rfl (am_ne (by decide) am_eq) ⟨by decide, by decide⟩ rfl ?_
    refine aw_iaddV (npc := 120) (v := 5) dX8_post_119 rfl (by decide) ?_
    refine aw_iconst (npc := 121) (v := 0) (by decide) dX8_post_120 rfl ?_
    refine aw_bipush (npc := 123) (v := 9) (by decide) dX8_post_121 rfl ?_
    refine aw_callS (npc := 126) (N := mX8_within) (mc := 0) (ms := 0) (A := [.int 5, .int 0, .int 9]) (S := [.int 8, .ref 70]) (L0 := [some (.int 5), some (.int 0), some (.int 9)]) dX8_post_123 rfl km_X8_within kk_X8_108 rfl ⟨rfl, by decide⟩ rfl (Nat.le_of_ble_eq_true rfl) (Nat.zero_add _) (Nat.zero_add _) rfl ?_
    refine aw_iload_n (npc := 1) rfl dX8_within_0 rfl ?_
    refine aw_iload_n (npc := 2) rfl dX8_within_1 rfl ?_
    refine aw_icmp_ge (npc := 5) (tgt := 9) dX8_within_2 rfl (by decide) (fun _ => ?_) (fun hc => absurd (by decide) hc)
    refine aw_iload_n (npc := 10) rfl dX8_within_9 rfl ?_
    refine aw_iload_n (npc := 11) rfl dX8_within_10 rfl ?_
    refine aw_icmp_le (npc := 14) (tgt := 18) dX8_within_11 rfl (by decide) (fun _ => ?_) (fun hc => absurd (by decide) hc)
    refine aw_iload_n (npc := 19) rfl dX8_within_18 rfl ?_
    refine aw_iret rfl dX8_within_19 ?_
    refine aw_re (S' := [.int 5, .int 8, .ref 70]) rfl ?_
    refine aw_iast (npc := 127) (j := 8) dX8_post_126 rfl (am_ne (by decide) (am_ne (by decide) am_eq)) ⟨by decide, by decide⟩ (Nat.le_of_ble_eq_true rfl) (show _ = am_up _ 70 (.inl (0, nw hv (pt + 1) 5 5 5 5)) from rfl) ?_
    refine aw_iinc (npc := 130) (v := 1) (L' := [some (.ref 69), some (.int 1)]) dX8_post_127 rfl rfl (by decide) (by decide) rfl rfl ?_
    refine aw_goto (npc := 91) dX8_post_130 (by decide) ?_
    refine aw_iload_n (npc := 92) rfl dX8_post_91 rfl ?_
    refine aw_iconst (npc := 93) (v := 4) (by decide) dX8_post_92 rfl ?_
    refine aw_icmp_ge (npc := 96) (tgt := 133) dX8_post_93 rfl (by decide) (fun hc => absurd hc (by decide)) (fun _ => ?_)
    refine aw_aload_n (npc := 97) rfl dX8_post_96 rfl ?_
    refine aw_get (npc := 100) dX8_post_97 rfl kf_X8_9 (am_ne (by decide) am_eq) rfl ?_
    refine aw_bipush (npc := 102) (v := 8) (by decide) dX8_post_100 rfl ?_
    refine aw_iload_n (npc := 103) rfl dX8_post_102 rfl ?_
    refine aw_iaddV (npc := 104) (v := 9) dX8_post_103 rfl (by decide) ?_
    refine aw_aload_n (npc := 105) rfl dX8_post_104 rfl ?_
    refine aw_get (npc := 108) dX8_post_105 rfl kf_X8_9 (am_ne (by decide) am_eq) rfl ?_
    refine aw_bipush (npc := 110) (v := 8) (by decide) dX8_post_108 rfl ?_
    refine aw_iload_n (npc := 111) rfl dX8_post_110 rfl ?_
    refine aw_iaddV (npc := 112) (v := 9) dX8_post_111 rfl (by decide) ?_
    refine aw_iald (npc := 113) (x := 5) (j := 9) dX8_post_112 rfl am_eq ⟨by decide, by decide⟩ rfl ?_
    refine aw_aload_n (npc := 114) rfl dX8_post_113 rfl ?_
    refine aw_get (npc := 117) dX8_post_114 rfl kf_X8_23 (am_ne (by decide) am_eq) rfl ?_
    refine aw_iload_n (npc := 118) rfl dX8_post_117 rfl ?_
    refine aw_iald (npc := 119) (x := 0) (j := 1) dX8_post_118 rfl (am_ne (by decide) (am_ne (by decide) am_eq)) ⟨by decide, by decide⟩ rfl ?_
    refine aw_iaddV (npc := 120) (v := 5) dX8_post_119 rfl (by decide) ?_
    refine aw_iconst (npc := 121) (v := 0) (by decide) dX8_post_120 rfl ?_
    refine aw_bipush (npc := 123) (v := 9) (by decide) dX8_post_121 rfl ?_
    refine aw_callS (npc := 126) (N := mX8_within) (mc := 0) (ms := 0) (A := [.int 5, .int 0, .int 9]) (S := [.int 9, .ref 70]) (L0 := [some (.int 5), some (.int 0), some (.int 9)]) dX8_post_123 rfl km_X8_within kk_X8_108 rfl ⟨rfl, by decide⟩ rfl (Nat.le_of_ble_eq_true rfl) (Nat.zero_add _) (Nat.zero_add _) rfl ?_
    refine aw_iload_n (npc := 1) rfl dX8_within_0 rfl ?_
    refine aw_iload_n (npc := 2) rfl dX8_within_1 rfl ?_
    refine aw_icmp_ge (npc := 5) (tgt := 9) dX8_within_2 rfl (by decide) (fun _ => ?_) (fun hc => absurd (by decide) hc)
    refine aw_iload_n (npc := 10) rfl dX8_within_9 rfl ?_
    refine aw_iload_n (npc := 11) rfl dX8_within_10 rfl ?_
    refine aw_icmp_le (npc := 14) (tgt := 18) dX8_within_11 rfl (by decide) (fun _ => ?_) (fun hc => absurd (by decide) hc)
    refine aw_iload_n (npc := 19) rfl dX8_within_18 rfl ?_
    refine aw_iret rfl dX8_within_19 ?_
    refine aw_re (S' := [.int 5, .int 9, .ref 70]) rfl ?_
    refine aw_iast (npc := 127) (j := 9) dX8_post_126 rfl am_eq ⟨by decide, by decide⟩ (Nat.le_of_ble_eq_true rfl) (show _ = am_up _ 70 (.inl (0, nw hv (pt + 1) 5 5 5 5)) from am_uu) ?_
    refine aw_iinc (npc := 130) (v := 2) (L' := [some (.ref 69), some (.int 2)]) dX8_post_127 rfl rfl (by decide) (by decide) rfl rfl ?_
    refine aw_goto (npc := 91) dX8_post_130 (by decide) ?_
    refine aw_iload_n (npc := 92) rfl dX8_post_91 rfl ?_
    refine aw_iconst (npc := 93) (v := 4) (by decide) dX8_post_92 rfl ?_
    refine aw_icmp_ge (npc := 96) (tgt := 133) dX8_post_93 rfl (by decide) (fun hc => absurd hc (by decide)) (fun _ => ?_)
    refine aw_aload_n (npc := 97) rfl dX8_post_96 rfl ?_
    refine aw_get (npc := 100) dX8_post_97 rfl kf_X8_9 (am_ne (by decide) am_eq) rfl ?_
    refine aw_bipush (npc := 102) (v := 8) (by decide) dX8_post_100 rfl ?_
    refine aw_iload_n (npc := 103) rfl dX8_post_102 rfl ?_
    refine aw_iaddV (npc := 104) (v := 10) dX8_post_103 rfl (by decide) ?_
    refine aw_aload_n (npc := 105) rfl dX8_post_104 rfl ?_
    refine aw_get (npc := 108) dX8_post_105 rfl kf_X8_9 (am_ne (by decide) am_eq) rfl ?_
    refine aw_bipush (npc := 110) (v := 8) (by decide) dX8_post_108 rfl ?_
    refine aw_iload_n (npc := 111) rfl dX8_post_110 rfl ?_
    refine aw_iaddV (npc := 112) (v := 10) dX8_post_111 rfl (by decide) ?_
    refine aw_iald (npc := 113) (x := 5) (j := 10) dX8_post_112 rfl am_eq ⟨by decide, by decide⟩ rfl ?_
    refine aw_aload_n (npc := 114) rfl dX8_post_113 rfl ?_
    refine aw_get (npc := 117) dX8_post_114 rfl kf_X8_23 (am_ne (by decide) am_eq) rfl ?_
    refine aw_iload_n (npc := 118) rfl dX8_post_117 rfl ?_
    refine aw_iald (npc := 119) (x := 0) (j := 2) dX8_post_118 rfl (am_ne (by decide) (am_ne (by decide) am_eq)) ⟨by decide, by decide⟩ rfl ?_
    refine aw_iaddV (npc := 120) (v := 5) dX8_post_119 rfl (by decide) ?_
    refine aw_iconst (npc := 121) (v := 0) (by decide) dX8_post_120 rfl ?_
    refine aw_bipush (npc := 123) (v := 9) (by decide) dX8_post_121 rfl ?_
    refine aw_callS (npc := 126) (N := mX8_within) (mc := 0) (ms := 0) (A := [.int 5, .int 0, .int 9]) (S := [.int 10, .ref 70]) (L0 := [some (.int 5), some (.int 0), some (.int 9)]) dX8_post_123 rfl km_X8_within kk_X8_108 rfl ⟨rfl, by decide⟩ rfl (Nat.le_of_ble_eq_true rfl) (Nat.zero_add _) (Nat.zero_add _) rfl ?_
    refine aw_iload_n (npc := 1) rfl dX8_within_0 rfl ?_
    refine aw_iload_n (npc := 2) rfl dX8_within_1 rfl ?_
    refine aw_icmp_ge (npc := 5) (tgt := 9) dX8_within_2 rfl (by decide) (fun _ => ?_) (fun hc => absurd (by decide) hc)
    refine aw_iload_n (npc := 10) rfl dX8_within_9 rfl ?_
    refine aw_iload_n (npc := 11) rfl dX8_within_10 rfl ?_
    refine aw_icmp_le (npc := 14) (tgt := 18) dX8_within_11 rfl (by decide) (fun _ => ?_) (fun hc => absurd (by decide) hc)
    refine aw_iload_n (npc := 19) rfl dX8_within_18 rfl ?_
    refine aw_iret rfl dX8_within_19 ?_
    refine aw_re (S' := [.int 5, .int 10, .ref 70]) rfl ?_
    refine aw_iast (npc := 127) (j := 10) dX8_post_126 rfl am_eq ⟨by decide, by decide⟩ (Nat.le_of_ble_eq_true rfl) (show _ = am_up _ 70 (.inl (0, nw hv (pt + 1) 5 5 5 5)) from am_uu) ?_
    refine aw_iinc (npc := 130) (v := 3) (L' := [some (.ref 69), some (.int 3)]) dX8_post_127 rfl rfl (by decide) (by decide) rfl rfl ?_
    refine aw_goto (npc := 91) dX8_post_130 (by decide) ?_
    refine aw_iload_n (npc := 92) rfl dX8_post_91 rfl ?_
    refine aw_iconst (npc := 93) (v := 4) (by decide) dX8_post_92 rfl ?_
    refine aw_icmp_ge (npc := 96) (tgt := 133) dX8_post_93 rfl (by decide) (fun hc => absurd hc (by decide)) (fun _ => ?_)
    refine aw_aload_n (npc := 97) rfl dX8_post_96 rfl ?_
    refine aw_get (npc := 100) dX8_post_97 rfl kf_X8_9 (am_ne (by decide) am_eq) rfl ?_
    refine aw_bipush (npc := 102) (v := 8) (by decide) dX8_post_100 rfl ?_
    refine aw_iload_n (npc := 103) rfl dX8_post_102 rfl ?_
    refine aw_iaddV (npc := 104) (v := 11) dX8_post_103 rfl (by decide) ?_
    refine aw_aload_n (npc := 105) rfl dX8_post_104 rfl ?_
    refine aw_get (npc := 108) dX8_post_105 rfl kf_X8_9 (am_ne (by decide) am_eq) rfl ?_
    refine aw_bipush (npc := 110) (v := 8) (by decide) dX8_post_108 rfl ?_
    refine aw_iload_n (npc := 111) rfl dX8_post_110 rfl ?_
    refine aw_iaddV (npc := 112) (v := 11) dX8_post_111 rfl (by decide) ?_
    refine aw_iald (npc := 113) (x := 5) (j := 11) dX8_post_112 rfl am_eq ⟨by decide, by decide⟩ rfl ?_
    refine aw_aload_n (npc := 114) rfl dX8_post_113 rfl ?_
    refine aw_get (npc := 117) dX8_post_114 rfl kf_X8_23 (am_ne (by decide) am_eq) rfl ?_
    refine aw_iload_n (npc := 118) rfl dX8_post_117 rfl ?_
    refine aw_iald (npc := 119) (x := 0) (j := 3) dX8_post_118 rfl (am_ne (by decide) (am_ne (by decide) am_eq)) ⟨by decide, by decide⟩ rfl ?_
    refine aw_iaddV (npc := 120) (v := 5) dX8_post_119 rfl (by decide) ?_
    refine aw_iconst (npc := 121) (v := 0) (by decide) dX8_post_120 rfl ?_
    refine aw_bipush (npc := 123) (v := 9) (by decide) dX8_post_121 rfl ?_
    refine aw_callS (npc := 126) (N := mX8_within) (mc := 0) (ms := 0) (A := [.int 5, .int 0, .int 9]) (S := [.int 11, .ref 70]) (L0 := [some (.int 5), some (.int 0), some (.int 9)]) dX8_post_123 rfl km_X8_within kk_X8_108 rfl ⟨rfl, by decide⟩ rfl (Nat.le_of_ble_eq_true rfl) (Nat.zero_add _) (Nat.zero_add _) rfl ?_
    refine aw_iload_n (npc := 1) rfl dX8_within_0 rfl ?_
    refine aw_iload_n (npc := 2) rfl dX8_within_1 rfl ?_
    refine aw_icmp_ge (npc := 5) (tgt := 9) dX8_within_2 rfl (by decide) (fun _ => ?_) (fun hc => absurd (by decide) hc)
    refine aw_iload_n (npc := 10) rfl dX8_within_9 rfl ?_
    refine aw_iload_n (npc := 11) rfl dX8_within_10 rfl ?_
    refine aw_icmp_le (npc := 14) (tgt := 18) dX8_within_11 rfl (by decide) (fun _ => ?_) (fun hc => absurd (by decide) hc)
    refine aw_iload_n (npc := 19) rfl dX8_within_18 rfl ?_
    refine aw_iret rfl dX8_within_19 ?_
    refine aw_re (S' := [.int 5, .int 11, .ref 70]) rfl ?_
    refine aw_iast (npc := 127) (j := 11) dX8_post_126 rfl am_eq ⟨by decide, by decide⟩ (Nat.le_of_ble_eq_true rfl) (show _ = am_up _ 70 (.inl (0, nw hv (pt + 1) 5 5 5 5)) from am_uu) ?_
    refine aw_iinc (npc := 130) (v := 4) (L' := [some (.ref 69), some (.int 4)]) dX8_post_127 rfl rfl (by decide) (by decide) rfl rfl ?_
    refine aw_goto (npc := 91) dX8_post_130 (by decide) ?_
    refine aw_iload_n (npc := 92) rfl dX8_post_91 rfl ?_
    refine aw_iconst (npc := 93) (v := 4) (by decide) dX8_post_92 rfl ?_
    refine aw_icmp_ge (npc := 96) (tgt := 133) dX8_post_93 rfl (by decide) (fun _ => ?_) (fun hc => absurd (by decide) hc)
    refine aw_aload_n (npc := 134) rfl dX8_post_133 rfl ?_
    refine aw_get (npc := 137) dX8_post_134 rfl kf_X8_9 (am_ne (by decide) am_eq) rfl ?_
    refine aw_iconst (npc := 138) (v := 3) (by decide) dX8_post_137 rfl ?_
    refine aw_aload_n (npc := 139) rfl dX8_post_138 rfl ?_
    refine aw_get (npc := 142) dX8_post_139 rfl kf_X8_9 (am_ne (by decide) am_eq) rfl ?_
    refine aw_iconst (npc := 143) (v := 3) (by decide) dX8_post_142 rfl ?_
    refine aw_iald (npc := 144) (x := hv) (j := 3) dX8_post_143 rfl am_eq ⟨by decide, by decide⟩ rfl ?_
    refine aw_aload_n (npc := 145) rfl dX8_post_144 rfl ?_
    refine aw_get (npc := 148) dX8_post_145 rfl kf_X8_146 (am_ne (by decide) am_eq) rfl ?_
    refine aw_iaddV (npc := 149) (v := hv) dX8_post_148 rfl (Int32.add_zero _) ?_
    refine aw_iconst (npc := 150) (v := 0) (by decide) dX8_post_149 rfl ?_
    refine aw_bipush (npc := 152) (v := 99) (by decide) dX8_post_150 rfl ?_
    refine aw_callS (npc := 155) (N := mX8_within) (mc := 0) (ms := 0) (A := [.int hv, .int 0, .int 99]) (S := [.int 3, .ref 70]) (L0 := [some (.int hv), some (.int 0), some (.int 99)]) dX8_post_152 rfl km_X8_within kk_X8_108 rfl ⟨rfl, by decide⟩ rfl (Nat.le_of_ble_eq_true rfl) (Nat.zero_add _) (Nat.zero_add _) rfl ?_
    refine aw_iload_n (npc := 1) rfl dX8_within_0 rfl ?_
    refine aw_iload_n (npc := 2) rfl dX8_within_1 rfl ?_
    refine aw_icmp_ge (npc := 5) (tgt := 9) dX8_within_2 rfl (by decide) (fun _ => ?_) (fun hc => absurd (wi_ge0 hh) hc)
    refine aw_iload_n (npc := 10) rfl dX8_within_9 rfl ?_
    refine aw_iload_n (npc := 11) rfl dX8_within_10 rfl ?_
    refine aw_icmp_le (npc := 14) (tgt := 18) dX8_within_11 rfl (by decide) (fun _ => ?_) (fun hc => absurd (Int32.not_lt.mp hh.2) hc)
    refine aw_iload_n (npc := 19) rfl dX8_within_18 rfl ?_
    refine aw_iret rfl dX8_within_19 ?_
    refine aw_re (S' := [.int hv, .int 3, .ref 70]) rfl ?_
    refine aw_iast (npc := 156) (j := 3) dX8_post_155 rfl am_eq ⟨by decide, by decide⟩ (Nat.le_of_ble_eq_true rfl) (show _ = am_up _ 70 (.inl (0, nw hv (pt + 1) 5 5 5 5)) from am_uu) ?_
    refine aw_vret rfl dX8_post_156 ?_
    exact hq 0 _ ⟨(am_ne (by decide) am_eq), am_eq, (am_ne (by decide) (am_ne (by decide) am_eq)), (am_ne (by decide) (am_ne (by decide) (am_ne (by decide) (am_ne (by decide) g74))))⟩
  · refine aw_vret rfl dX8_post_32 ?_
    exact hq hot _ ⟨(am_ne (by decide) g69), am_eq, (am_ne (by decide) g73), (am_ne (by decide) g74)⟩
set_option maxHeartbeats 40000000 in
set_option maxRecDepth 100000 in
theorem p_goL {X : List Int32} {d rc rs nn : Nat} {Q : am_Q} {si hv : Int32} {bf : List Int32} (hh : wi hv 0 99) {N : Nat} (hN : N < 1000) (hq : ∀ (hot2 pt2 : Int32) (h9 : am_H), fm si hot2 hv pt2 5 5 5 5 bf h9 → Q none nn h9) : ∀ (m j : Nat), j + m = N → ∀ (hot pt : Int32) (h : am_H), fm si hot hv pt 5 5 5 5 bf h → AW X mX8_goesOn (d + 8) rc rs 2 [some (.ref 69), some (.int (nI N)), some (.int (nI j))] [] nn h Q := by
  intro m
  induction m with
  | zero =>
    intro j hj hot pt h F
    obtain rfl : j = N := by omega
    refine aw_iload_n (npc := 3) rfl dX8_goesOn_2 rfl ?_
    refine aw_iload_n (npc := 4) rfl dX8_goesOn_3 rfl ?_
    refine aw_icmp_ge (npc := 7) (tgt := 17) dX8_goesOn_4 rfl (by decide) (fun _ => ?_) (fun hc => absurd (nI_le (Nat.le_refl _) (by omega)) hc)
    refine aw_vret rfl dX8_goesOn_17 ?_
    exact hq _ _ _ F
  | succ m ih =>
    intro j hj hot pt h F
    obtain ⟨g69, g70, g73, g74⟩ := F
    refine aw_iload_n (npc := 3) rfl dX8_goesOn_2 rfl ?_
    refine aw_iload_n (npc := 4) rfl dX8_goesOn_3 rfl ?_
    refine aw_icmp_ge (npc := 7) (tgt := 17) dX8_goesOn_4 rfl (by decide) (fun hc => absurd hc (nI_ge (by omega) (by omega))) (fun _ => ?_)
    refine aw_aload_n (npc := 8) rfl dX8_goesOn_7 rfl ?_
    refine aw_callV (npc := 11) (N := mX8_post) (b := 69) (mc := 0) (ms := 0) (A := []) (S := []) (L0 := [some (.ref 69), none]) dX8_goesOn_8 rfl km_X8_post kk_X8_157 g69 ⟨by decide, rfl⟩ rfl ⟨rfl, by decide⟩ rfl (Nat.le_of_ble_eq_true rfl) (Nat.zero_add _) (Nat.zero_add _) rfl ?_
    refine p_mpost hh ⟨g69, g70, g73, g74⟩ (fun ht3 h9 F2 => ?_)
    obtain ⟨a4_69, a4_70, a4_73, a4_74⟩ := F2
    refine aw_iinc (npc := 14) (v := nI (j + 1)) (L' := [some (.ref 69), some (.int (nI N)), some (.int (nI (j + 1)))]) dX8_goesOn_11 rfl rfl (nI_1 j) (by decide) rfl rfl ?_
    refine aw_goto (npc := 2) dX8_goesOn_14 (by decide) ?_
    exact ih (j + 1) (by omega) _ _ _ ⟨a4_69, a4_70, a4_73, a4_74⟩
set_option maxHeartbeats 40000000 in
set_option maxRecDepth 100000 in
theorem p_go {X : List Int32} {d rc rs nn : Nat} {Q : am_Q} {si hot hv pt : Int32} {bf : List Int32} {h : am_H} (hh : wi hv 0 99) {N : Nat} (hN : N < 1000) (F : fm si hot hv pt 5 5 5 5 bf h) (hq : ∀ (hot2 pt2 : Int32) (h9 : am_H), fm si hot2 hv pt2 5 5 5 5 bf h9 → Q none nn h9) : AW X mX8_goesOn (d + 8) rc rs 0 [some (.ref 69), some (.int (nI N)), none] [] nn h Q := by
  refine aw_iconst (npc := 1) (v := 0) (by decide) dX8_goesOn_0 rfl ?_
  refine aw_istore_n (npc := 2) (L' := [some (.ref 69), some (.int (nI N)), some (.int 0)]) dX8_goesOn_1 rfl (by decide) rfl rfl ?_
  refine aw_locs (L' := [some (.ref 69), some (.int (nI N)), some (.int (nI 0))]) rfl ?_
  exact p_goL hh hN hq N 0 (by omega) _ _ _ F
set_option maxHeartbeats 40000000 in
set_option maxRecDepth 100000 in
theorem p_thinks {X : List Int32} {d rc rs nn : Nat} {Q : am_Q} {si hot : Int32} {h : am_H} (F : fm si hot 0 0 5 5 5 5 (List.replicate 62 0) h) (hq : ∀ h9, fm si hot 0 0 5 5 5 5 nb h9 → Q none nn h9) : AW X mX8_thinks (d + 2) rc rs 0 [some (.ref 69), none] [] nn h Q := by
  obtain ⟨g69, g70, g73, g74⟩ := F
  refine aw_iconst (npc := 1) (v := 0) (by decide) dX8_thinks_0 rfl ?_
  refine aw_istore_n (npc := 2) (L' := [some (.ref 69), some (.int 0)]) dX8_thinks_1 rfl (by decide) rfl rfl ?_
  refine aw_iload_n (npc := 3) rfl dX8_thinks_2 rfl ?_
  refine aw_bipush (npc := 5) (v := 62) (by decide) dX8_thinks_3 rfl ?_
  refine aw_icmp_ge (npc := 8) (tgt := 26) dX8_thinks_5 rfl (by decide) (fun hc => absurd hc (by decide)) (fun _ => ?_)
  refine aw_aload_n (npc := 9) rfl dX8_thinks_8 rfl ?_
  refine aw_get (npc := 12) dX8_thinks_9 rfl kf_X8_26 g69 rfl ?_
  refine aw_iload_n (npc := 13) rfl dX8_thinks_12 rfl ?_
  refine aw_aload_n (npc := 14) rfl dX8_thinks_13 rfl ?_
  refine aw_get (npc := 17) dX8_thinks_14 rfl kf_X8_9 g69 rfl ?_
  refine aw_iload_n (npc := 18) rfl dX8_thinks_17 rfl ?_
  refine aw_iald (npc := 19) (x := 1) (j := 0) dX8_thinks_18 rfl g70 ⟨by decide, by decide⟩ rfl ?_
  refine aw_iast (npc := 20) (j := 0) dX8_thinks_19 rfl g74 ⟨by decide, by decide⟩ (Nat.le_of_ble_eq_true rfl) rfl ?_
  refine aw_iinc (npc := 23) (v := 1) (L' := [some (.ref 69), some (.int 1)]) dX8_thinks_20 rfl rfl (by decide) (by decide) rfl rfl ?_
  refine aw_goto (npc := 2) dX8_thinks_23 (by decide) ?_
  refine aw_iload_n (npc := 3) rfl dX8_thinks_2 rfl ?_
  refine aw_bipush (npc := 5) (v := 62) (by decide) dX8_thinks_3 rfl ?_
  refine aw_icmp_ge (npc := 8) (tgt := 26) dX8_thinks_5 rfl (by decide) (fun hc => absurd hc (by decide)) (fun _ => ?_)
  refine aw_aload_n (npc := 9) rfl dX8_thinks_8 rfl ?_
  refine aw_get (npc := 12) dX8_thinks_9 rfl kf_X8_26 (am_ne (by decide) g69) rfl ?_
  refine aw_iload_n (npc := 13) rfl dX8_thinks_12 rfl ?_
  refine aw_aload_n (npc := 14) rfl dX8_thinks_13 rfl ?_
  refine aw_get (npc := 17) dX8_thinks_14 rfl kf_X8_9 (am_ne (by decide) g69) rfl ?_
  refine aw_iload_n (npc := 18) rfl dX8_thinks_17 rfl ?_
  refine aw_iald (npc := 19) (x := 0) (j := 1) dX8_thinks_18 rfl (am_ne (by decide) g70) ⟨by decide, by decide⟩ rfl ?_
  refine aw_iast (npc := 20) (j := 1) dX8_thinks_19 rfl am_eq ⟨by decide, by decide⟩ (Nat.le_of_ble_eq_true rfl) am_uu ?_
  refine aw_iinc (npc := 23) (v := 2) (L' := [some (.ref 69), some (.int 2)]) dX8_thinks_20 rfl rfl (by decide) (by decide) rfl rfl ?_
  refine aw_goto (npc := 2) dX8_thinks_23 (by decide) ?_
  refine aw_iload_n (npc := 3) rfl dX8_thinks_2 rfl ?_
  refine aw_bipush (npc := 5) (v := 62) (by decide) dX8_thinks_3 rfl ?_
  refine aw_icmp_ge (npc := 8) (tgt := 26) dX8_thinks_5 rfl (by decide) (fun hc => absurd hc (by decide)) (fun _ => ?_)
  refine aw_aload_n (npc := 9) rfl dX8_thinks_8 rfl ?_
  refine aw_get (npc := 12) dX8_thinks_9 rfl kf_X8_26 (am_ne (by decide) g69) rfl ?_
  refine aw_iload_n (npc := 13) rfl dX8_thinks_12 rfl ?_
  refine aw_aload_n (npc := 14) rfl dX8_thinks_13 rfl ?_
  refine aw_get (npc := 17) dX8_thinks_14 rfl kf_X8_9 (am_ne (by decide) g69) rfl ?_
  refine aw_iload_n (npc := 18) rfl dX8_thinks_17 rfl ?_
  refine aw_iald (npc := 19) (x := 0) (j := 2) dX8_thinks_18 rfl (am_ne (by decide) g70) ⟨by decide, by decide⟩ rfl ?_
  refine aw_iast (npc := 20) (j := 2) dX8_thinks_19 rfl am_eq ⟨by decide, by decide⟩ (Nat.le_of_ble_eq_true rfl) am_uu ?_
  refine aw_iinc (npc := 23) (v := 3) (L' := [some (.ref 69), some (.int 3)]) dX8_thinks_20 rfl rfl (by decide) (by decide) rfl rfl ?_
  refine aw_goto (npc := 2) dX8_thinks_23 (by decide) ?_
  refine aw_iload_n (npc := 3) rfl dX8_thinks_2 rfl ?_
  refine aw_bipush (npc := 5) (v := 62) (by decide) dX8_thinks_3 rfl ?_
  refine aw_icmp_ge (npc := 8) (tgt := 26) dX8_thinks_5 rfl (by decide) (fun hc => absurd hc (by decide)) (fun _ => ?_)
  refine aw_aload_n (npc := 9) rfl dX8_thinks_8 rfl ?_
  refine aw_get (npc := 12) dX8_thinks_9 rfl kf_X8_26 (am_ne (by decide) g69) rfl ?_
  refine aw_iload_n (npc := 13) rfl dX8_thinks_12 rfl ?_
  refine aw_aload_n (npc := 14) rfl dX8_thinks_13 rfl ?_
  refine aw_get (npc := 17) dX8_thinks_14 rfl kf_X8_9 (am_ne (by decide) g69) rfl ?_
  refine aw_iload_n (npc := 18) rfl dX8_thinks_17 rfl ?_
  refine aw_iald (npc := 19) (x := 0) (j := 3) dX8_thinks_18 rfl (am_ne (by decide) g70) ⟨by decide, by decide⟩ rfl ?_
  refine aw_iast (npc := 20) (j := 3) dX8_thinks_19 rfl am_eq ⟨by decide, by decide⟩ (Nat.le_of_ble_eq_true rfl) am_uu ?_
  refine aw_iinc (npc := 23) (v := 4) (L' := [some (.ref 69), some (.int 4)]) dX8_thinks_20 rfl rfl (by decide) (by decide) rfl rfl ?_
  refine aw_goto (npc := 2) dX8_thinks_23 (by decide) ?_
  refine aw_iload_n (npc := 3) rfl dX8_thinks_2 rfl ?_
  refine aw_bipush (npc := 5) (v := 62) (by decide) dX8_thinks_3 rfl ?_
  refine aw_icmp_ge (npc := 8) (tgt := 26) dX8_thinks_5 rfl (by decide) (fun hc => absurd hc (by decide)) (fun _ => ?_)
  refine aw_aload_n (npc := 9) rfl dX8_thinks_8 rfl ?_
  refine aw_get (npc := 12) dX8_thinks_9 rfl kf_X8_26 (am_ne (by decide) g69) rfl ?_
  refine aw_iload_n (npc := 13) rfl dX8_thinks_12 rfl ?_
  refine aw_aload_n (npc := 14) rfl dX8_thinks_13 rfl ?_
  refine aw_get (npc := 17) dX8_thinks_14 rfl kf_X8_9 (am_ne (by decide) g69) rfl ?_
  refine aw_iload_n (npc := 18) rfl dX8_thinks_17 rfl ?_
  refine aw_iald (npc := 19) (x := 60) (j := 4) dX8_thinks_18 rfl (am_ne (by decide) g70) ⟨by decide, by decide⟩ rfl ?_
  refine aw_iast (npc := 20) (j := 4) dX8_thinks_19 rfl am_eq ⟨by decide, by decide⟩ (Nat.le_of_ble_eq_true rfl) am_uu ?_
  refine aw_iinc (npc := 23) (v := 5) (L' := [some (.ref 69), some (.int 5)]) dX8_thinks_20 rfl rfl (by decide) (by decide) rfl rfl ?_
  refine aw_goto (npc := 2) dX8_thinks_23 (by decide) ?_
  refine aw_iload_n (npc := 3) rfl dX8_thinks_2 rfl ?_
  refine aw_bipush (npc := 5) (v := 62) (by decide) dX8_thinks_3 rfl ?_
  refine aw_icmp_ge (npc := 8) (tgt := 26) dX8_thinks_5 rfl (by decide) (fun hc => absurd hc (by decide)) (fun _ => ?_)
  refine aw_aload_n (npc := 9) rfl dX8_thinks_8 rfl ?_
  refine aw_get (npc := 12) dX8_thinks_9 rfl kf_X8_26 (am_ne (by decide) g69) rfl ?_
  refine aw_iload_n (npc := 13) rfl dX8_thinks_12 rfl ?_
  refine aw_aload_n (npc := 14) rfl dX8_thinks_13 rfl ?_
  refine aw_get (npc := 17) dX8_thinks_14 rfl kf_X8_9 (am_ne (by decide) g69) rfl ?_
  refine aw_iload_n (npc := 18) rfl dX8_thinks_17 rfl ?_
  refine aw_iald (npc := 19) (x := 10) (j := 5) dX8_thinks_18 rfl (am_ne (by decide) g70) ⟨by decide, by decide⟩ rfl ?_
  refine aw_iast (npc := 20) (j := 5) dX8_thinks_19 rfl am_eq ⟨by decide, by decide⟩ (Nat.le_of_ble_eq_true rfl) am_uu ?_
  refine aw_iinc (npc := 23) (v := 6) (L' := [some (.ref 69), some (.int 6)]) dX8_thinks_20 rfl rfl (by decide) (by decide) rfl rfl ?_
  refine aw_goto (npc := 2) dX8_thinks_23 (by decide) ?_
  refine aw_iload_n (npc := 3) rfl dX8_thinks_2 rfl ?_
  refine aw_bipush (npc := 5) (v := 62) (by decide) dX8_thinks_3 rfl ?_
  refine aw_icmp_ge (npc := 8) (tgt := 26) dX8_thinks_5 rfl (by decide) (fun hc => absurd hc (by decide)) (fun _ => ?_)
  refine aw_aload_n (npc := 9) rfl dX8_thinks_8 rfl ?_
  refine aw_get (npc := 12) dX8_thinks_9 rfl kf_X8_26 (am_ne (by decide) g69) rfl ?_
  refine aw_iload_n (npc := 13) rfl dX8_thinks_12 rfl ?_
  refine aw_aload_n (npc := 14) rfl dX8_thinks_13 rfl ?_
  refine aw_get (npc := 17) dX8_thinks_14 rfl kf_X8_9 (am_ne (by decide) g69) rfl ?_
  refine aw_iload_n (npc := 18) rfl dX8_thinks_17 rfl ?_
  refine aw_iald (npc := 19) (x := 0) (j := 6) dX8_thinks_18 rfl (am_ne (by decide) g70) ⟨by decide, by decide⟩ rfl ?_
  refine aw_iast (npc := 20) (j := 6) dX8_thinks_19 rfl am_eq ⟨by decide, by decide⟩ (Nat.le_of_ble_eq_true rfl) am_uu ?_
  refine aw_iinc (npc := 23) (v := 7) (L' := [some (.ref 69), some (.int 7)]) dX8_thinks_20 rfl rfl (by decide) (by decide) rfl rfl ?_
  refine aw_goto (npc := 2) dX8_thinks_23 (by decide) ?_
  refine aw_iload_n (npc := 3) rfl dX8_thinks_2 rfl ?_
  refine aw_bipush (npc := 5) (v := 62) (by decide) dX8_thinks_3 rfl ?_
  refine aw_icmp_ge (npc := 8) (tgt := 26) dX8_thinks_5 rfl (by decide) (fun hc => absurd hc (by decide)) (fun _ => ?_)
  refine aw_aload_n (npc := 9) rfl dX8_thinks_8 rfl ?_
  refine aw_get (npc := 12) dX8_thinks_9 rfl kf_X8_26 (am_ne (by decide) g69) rfl ?_
  refine aw_iload_n (npc := 13) rfl dX8_thinks_12 rfl ?_
  refine aw_aload_n (npc := 14) rfl dX8_thinks_13 rfl ?_
  refine aw_get (npc := 17) dX8_thinks_14 rfl kf_X8_9 (am_ne (by decide) g69) rfl ?_
  refine aw_iload_n (npc := 18) rfl dX8_thinks_17 rfl ?_
  refine aw_iald (npc := 19) (x := 0) (j := 7) dX8_thinks_18 rfl (am_ne (by decide) g70) ⟨by decide, by decide⟩ rfl ?_
  refine aw_iast (npc := 20) (j := 7) dX8_thinks_19 rfl am_eq ⟨by decide, by decide⟩ (Nat.le_of_ble_eq_true rfl) am_uu ?_
  refine aw_iinc (npc := 23) (v := 8) (L' := [some (.ref 69), some (.int 8)]) dX8_thinks_20 rfl rfl (by decide) (by decide) rfl rfl ?_
  refine aw_goto (npc := 2) dX8_thinks_23 (by decide) ?_
  refine aw_iload_n (npc := 3) rfl dX8_thinks_2 rfl ?_
  refine aw_bipush (npc := 5) (v := 62) (by decide) dX8_thinks_3 rfl ?_
  refine aw_icmp_ge (npc := 8) (tgt := 26) dX8_thinks_5 rfl (by decide) (fun hc => absurd hc (by decide)) (fun _ => ?_)
  refine aw_aload_n (npc := 9) rfl dX8_thinks_8 rfl ?_
  refine aw_get (npc := 12) dX8_thinks_9 rfl kf_X8_26 (am_ne (by decide) g69) rfl ?_
  refine aw_iload_n (npc := 13) rfl dX8_thinks_12 rfl ?_
  refine aw_aload_n (npc := 14) rfl dX8_thinks_13 rfl ?_
  refine aw_get (npc := 17) dX8_thinks_14 rfl kf_X8_9 (am_ne (by decide) g69) rfl ?_
  refine aw_iload_n (npc := 18) rfl dX8_thinks_17 rfl ?_
  refine aw_iald (npc := 19) (x := 5) (j := 8) dX8_thinks_18 rfl (am_ne (by decide) g70) ⟨by decide, by decide⟩ rfl ?_
  refine aw_iast (npc := 20) (j := 8) dX8_thinks_19 rfl am_eq ⟨by decide, by decide⟩ (Nat.le_of_ble_eq_true rfl) am_uu ?_
  refine aw_iinc (npc := 23) (v := 9) (L' := [some (.ref 69), some (.int 9)]) dX8_thinks_20 rfl rfl (by decide) (by decide) rfl rfl ?_
  refine aw_goto (npc := 2) dX8_thinks_23 (by decide) ?_
  refine aw_iload_n (npc := 3) rfl dX8_thinks_2 rfl ?_
  refine aw_bipush (npc := 5) (v := 62) (by decide) dX8_thinks_3 rfl ?_
  refine aw_icmp_ge (npc := 8) (tgt := 26) dX8_thinks_5 rfl (by decide) (fun hc => absurd hc (by decide)) (fun _ => ?_)
  refine aw_aload_n (npc := 9) rfl dX8_thinks_8 rfl ?_
  refine aw_get (npc := 12) dX8_thinks_9 rfl kf_X8_26 (am_ne (by decide) g69) rfl ?_
  refine aw_iload_n (npc := 13) rfl dX8_thinks_12 rfl ?_
  refine aw_aload_n (npc := 14) rfl dX8_thinks_13 rfl ?_
  refine aw_get (npc := 17) dX8_thinks_14 rfl kf_X8_9 (am_ne (by decide) g69) rfl ?_
  refine aw_iload_n (npc := 18) rfl dX8_thinks_17 rfl ?_
  refine aw_iald (npc := 19) (x := 5) (j := 9) dX8_thinks_18 rfl (am_ne (by decide) g70) ⟨by decide, by decide⟩ rfl ?_
  refine aw_iast (npc := 20) (j := 9) dX8_thinks_19 rfl am_eq ⟨by decide, by decide⟩ (Nat.le_of_ble_eq_true rfl) am_uu ?_
  refine aw_iinc (npc := 23) (v := 10) (L' := [some (.ref 69), some (.int 10)]) dX8_thinks_20 rfl rfl (by decide) (by decide) rfl rfl ?_
  refine aw_goto (npc := 2) dX8_thinks_23 (by decide) ?_
  refine aw_iload_n (npc := 3) rfl dX8_thinks_2 rfl ?_
  refine aw_bipush (npc := 5) (v := 62) (by decide) dX8_thinks_3 rfl ?_
  refine aw_icmp_ge (npc := 8) (tgt := 26) dX8_thinks_5 rfl (by decide) (fun hc => absurd hc (by decide)) (fun _ => ?_)
  refine aw_aload_n (npc := 9) rfl dX8_thinks_8 rfl ?_
  refine aw_get (npc := 12) dX8_thinks_9 rfl kf_X8_26 (am_ne (by decide) g69) rfl ?_
  refine aw_iload_n (npc := 13) rfl dX8_thinks_12 rfl ?_
  refine aw_aload_n (npc := 14) rfl dX8_thinks_13 rfl ?_
  refine aw_get (npc := 17) dX8_thinks_14 rfl kf_X8_9 (am_ne (by decide) g69) rfl ?_
  refine aw_iload_n (npc := 18) rfl dX8_thinks_17 rfl ?_
  refine aw_iald (npc := 19) (x := 5) (j := 10) dX8_thinks_18 rfl (am_ne (by decide) g70) ⟨by decide, by decide⟩ rfl ?_
  refine aw_iast (npc := 20) (j := 10) dX8_thinks_19 rfl am_eq ⟨by decide, by decide⟩ (Nat.le_of_ble_eq_true rfl) am_uu ?_
  refine aw_iinc (npc := 23) (v := 11) (L' := [some (.ref 69), some (.int 11)]) dX8_thinks_20 rfl rfl (by decide) (by decide) rfl rfl ?_
  refine aw_goto (npc := 2) dX8_thinks_23 (by decide) ?_
  refine aw_iload_n (npc := 3) rfl dX8_thinks_2 rfl ?_
  refine aw_bipush (npc := 5) (v := 62) (by decide) dX8_thinks_3 rfl ?_
  refine aw_icmp_ge (npc := 8) (tgt := 26) dX8_thinks_5 rfl (by decide) (fun hc => absurd hc (by decide)) (fun _ => ?_)
  refine aw_aload_n (npc := 9) rfl dX8_thinks_8 rfl ?_
  refine aw_get (npc := 12) dX8_thinks_9 rfl kf_X8_26 (am_ne (by decide) g69) rfl ?_
  refine aw_iload_n (npc := 13) rfl dX8_thinks_12 rfl ?_
  refine aw_aload_n (npc := 14) rfl dX8_thinks_13 rfl ?_
  refine aw_get (npc := 17) dX8_thinks_14 rfl kf_X8_9 (am_ne (by decide) g69) rfl ?_
  refine aw_iload_n (npc := 18) rfl dX8_thinks_17 rfl ?_
  refine aw_iald (npc := 19) (x := 5) (j := 11) dX8_thinks_18 rfl (am_ne (by decide) g70) ⟨by decide, by decide⟩ rfl ?_
  refine aw_iast (npc := 20) (j := 11) dX8_thinks_19 rfl am_eq ⟨by decide, by decide⟩ (Nat.le_of_ble_eq_true rfl) am_uu ?_
  refine aw_iinc (npc := 23) (v := 12) (L' := [some (.ref 69), some (.int 12)]) dX8_thinks_20 rfl rfl (by decide) (by decide) rfl rfl ?_
  refine aw_goto (npc := 2) dX8_thinks_23 (by decide) ?_
  refine aw_iload_n (npc := 3) rfl dX8_thinks_2 rfl ?_
  refine aw_bipush (npc := 5) (v := 62) (by decide) dX8_thinks_3 rfl ?_
  refine aw_icmp_ge (npc := 8) (tgt := 26) dX8_thinks_5 rfl (by decide) (fun hc => absurd hc (by decide)) (fun _ => ?_)
  refine aw_aload_n (npc := 9) rfl dX8_thinks_8 rfl ?_
  refine aw_get (npc := 12) dX8_thinks_9 rfl kf_X8_26 (am_ne (by decide) g69) rfl ?_
  refine aw_iload_n (npc := 13) rfl dX8_thinks_12 rfl ?_
  refine aw_aload_n (npc := 14) rfl dX8_thinks_13 rfl ?_
  refine aw_get (npc := 17) dX8_thinks_14 rfl kf_X8_9 (am_ne (by decide) g69) rfl ?_
  refine aw_iload_n (npc := 18) rfl dX8_thinks_17 rfl ?_
  refine aw_iald (npc := 19) (x := 1) (j := 12) dX8_thinks_18 rfl (am_ne (by decide) g70) ⟨by decide, by decide⟩ rfl ?_
  refine aw_iast (npc := 20) (j := 12) dX8_thinks_19 rfl am_eq ⟨by decide, by decide⟩ (Nat.le_of_ble_eq_true rfl) am_uu ?_
  refine aw_iinc (npc := 23) (v := 13) (L' := [some (.ref 69), some (.int 13)]) dX8_thinks_20 rfl rfl (by decide) (by decide) rfl rfl ?_
  refine aw_goto (npc := 2) dX8_thinks_23 (by decide) ?_
  refine aw_iload_n (npc := 3) rfl dX8_thinks_2 rfl ?_
  refine aw_bipush (npc := 5) (v := 62) (by decide) dX8_thinks_3 rfl ?_
  refine aw_icmp_ge (npc := 8) (tgt := 26) dX8_thinks_5 rfl (by decide) (fun hc => absurd hc (by decide)) (fun _ => ?_)
  refine aw_aload_n (npc := 9) rfl dX8_thinks_8 rfl ?_
  refine aw_get (npc := 12) dX8_thinks_9 rfl kf_X8_26 (am_ne (by decide) g69) rfl ?_
  refine aw_iload_n (npc := 13) rfl dX8_thinks_12 rfl ?_
  refine aw_aload_n (npc := 14) rfl dX8_thinks_13 rfl ?_
  refine aw_get (npc := 17) dX8_thinks_14 rfl kf_X8_9 (am_ne (by decide) g69) rfl ?_
  refine aw_iload_n (npc := 18) rfl dX8_thinks_17 rfl ?_
  refine aw_iald (npc := 19) (x := 1) (j := 13) dX8_thinks_18 rfl (am_ne (by decide) g70) ⟨by decide, by decide⟩ rfl ?_
  refine aw_iast (npc := 20) (j := 13) dX8_thinks_19 rfl am_eq ⟨by decide, by decide⟩ (Nat.le_of_ble_eq_true rfl) am_uu ?_
  refine aw_iinc (npc := 23) (v := 14) (L' := [some (.ref 69), some (.int 14)]) dX8_thinks_20 rfl rfl (by decide) (by decide) rfl rfl ?_
  refine aw_goto (npc := 2) dX8_thinks_23 (by decide) ?_
  refine aw_iload_n (npc := 3) rfl dX8_thinks_2 rfl ?_
  refine aw_bipush (npc := 5) (v := 62) (by decide) dX8_thinks_3 rfl ?_
  refine aw_icmp_ge (npc := 8) (tgt := 26) dX8_thinks_5 rfl (by decide) (fun hc => absurd hc (by decide)) (fun _ => ?_)
  refine aw_aload_n (npc := 9) rfl dX8_thinks_8 rfl ?_
  refine aw_get (npc := 12) dX8_thinks_9 rfl kf_X8_26 (am_ne (by decide) g69) rfl ?_
  refine aw_iload_n (npc := 13) rfl dX8_thinks_12 rfl ?_
  refine aw_aload_n (npc := 14) rfl dX8_thinks_13 rfl ?_
  refine aw_get (npc := 17) dX8_thinks_14 rfl kf_X8_9 (am_ne (by decide) g69) rfl ?_
  refine aw_iload_n (npc := 18) rfl dX8_thinks_17 rfl ?_
  refine aw_iald (npc := 19) (x := 1) (j := 14) dX8_thinks_18 rfl (am_ne (by decide) g70) ⟨by decide, by decide⟩ rfl ?_
  refine aw_iast (npc := 20) (j := 14) dX8_thinks_19 rfl am_eq ⟨by decide, by decide⟩ (Nat.le_of_ble_eq_true rfl) am_uu ?_
  refine aw_iinc (npc := 23) (v := 15) (L' := [some (.ref 69), some (.int 15)]) dX8_thinks_20 rfl rfl (by decide) (by decide) rfl rfl ?_
  refine aw_goto (npc := 2) dX8_thinks_23 (by decide) ?_
  refine aw_iload_n (npc := 3) rfl dX8_thinks_2 rfl ?_
  refine aw_bipush (npc := 5) (v := 62) (by decide) dX8_thinks_3 rfl ?_
  refine aw_icmp_ge (npc := 8) (tgt := 26) dX8_thinks_5 rfl (by decide) (fun hc => absurd hc (by decide)) (fun _ => ?_)
  refine aw_aload_n (npc := 9) rfl dX8_thinks_8 rfl ?_
  refine aw_get (npc := 12) dX8_thinks_9 rfl kf_X8_26 (am_ne (by decide) g69) rfl ?_
  refine aw_iload_n (npc := 13) rfl dX8_thinks_12 rfl ?_
  refine aw_aload_n (npc := 14) rfl dX8_thinks_13 rfl ?_
  refine aw_get (npc := 17) dX8_thinks_14 rfl kf_X8_9 (am_ne (by decide) g69) rfl ?_
  refine aw_iload_n (npc := 18) rfl dX8_thinks_17 rfl ?_
  refine aw_iald (npc := 19) (x := 1) (j := 15) dX8_thinks_18 rfl (am_ne (by decide) g70) ⟨by decide, by decide⟩ rfl ?_
  refine aw_iast (npc := 20) (j := 15) dX8_thinks_19 rfl am_eq ⟨by decide, by decide⟩ (Nat.le_of_ble_eq_true rfl) am_uu ?_
  refine aw_iinc (npc := 23) (v := 16) (L' := [some (.ref 69), some (.int 16)]) dX8_thinks_20 rfl rfl (by decide) (by decide) rfl rfl ?_
  refine aw_goto (npc := 2) dX8_thinks_23 (by decide) ?_
  refine aw_iload_n (npc := 3) rfl dX8_thinks_2 rfl ?_
  refine aw_bipush (npc := 5) (v := 62) (by decide) dX8_thinks_3 rfl ?_
  refine aw_icmp_ge (npc := 8) (tgt := 26) dX8_thinks_5 rfl (by decide) (fun hc => absurd hc (by decide)) (fun _ => ?_)
  refine aw_aload_n (npc := 9) rfl dX8_thinks_8 rfl ?_
  refine aw_get (npc := 12) dX8_thinks_9 rfl kf_X8_26 (am_ne (by decide) g69) rfl ?_
  refine aw_iload_n (npc := 13) rfl dX8_thinks_12 rfl ?_
  refine aw_aload_n (npc := 14) rfl dX8_thinks_13 rfl ?_
  refine aw_get (npc := 17) dX8_thinks_14 rfl kf_X8_9 (am_ne (by decide) g69) rfl ?_
  refine aw_iload_n (npc := 18) rfl dX8_thinks_17 rfl ?_
  refine aw_iald (npc := 19) (x := 1) (j := 16) dX8_thinks_18 rfl (am_ne (by decide) g70) ⟨by decide, by decide⟩ rfl ?_
  refine aw_iast (npc := 20) (j := 16) dX8_thinks_19 rfl am_eq ⟨by decide, by decide⟩ (Nat.le_of_ble_eq_true rfl) am_uu ?_
  refine aw_iinc (npc := 23) (v := 17) (L' := [some (.ref 69), some (.int 17)]) dX8_thinks_20 rfl rfl (by decide) (by decide) rfl rfl ?_
  refine aw_goto (npc := 2) dX8_thinks_23 (by decide) ?_
  refine aw_iload_n (npc := 3) rfl dX8_thinks_2 rfl ?_
  refine aw_bipush (npc := 5) (v := 62) (by decide) dX8_thinks_3 rfl ?_
  refine aw_icmp_ge (npc := 8) (tgt := 26) dX8_thinks_5 rfl (by decide) (fun hc => absurd hc (by decide)) (fun _ => ?_)
  refine aw_aload_n (npc := 9) rfl dX8_thinks_8 rfl ?_
  refine aw_get (npc := 12) dX8_thinks_9 rfl kf_X8_26 (am_ne (by decide) g69) rfl ?_
  refine aw_iload_n (npc := 13) rfl dX8_thinks_12 rfl ?_
  refine aw_aload_n (npc := 14) rfl dX8_thinks_13 rfl ?_
  refine aw_get (npc := 17) dX8_thinks_14 rfl kf_X8_9 (am_ne (by decide) g69) rfl ?_
  refine aw_iload_n (npc := 18) rfl dX8_thinks_17 rfl ?_
  refine aw_iald (npc := 19) (x := 1) (j := 17) dX8_thinks_18 rfl (am_ne (by decide) g70) ⟨by decide, by decide⟩ rfl ?_
  refine aw_iast (npc := 20) (j := 17) dX8_thinks_19 rfl am_eq ⟨by decide, by decide⟩ (Nat.le_of_ble_eq_true rfl) am_uu ?_
  refine aw_iinc (npc := 23) (v := 18) (L' := [some (.ref 69), some (.int 18)]) dX8_thinks_20 rfl rfl (by decide) (by decide) rfl rfl ?_
  refine aw_goto (npc := 2) dX8_thinks_23 (by decide) ?_
  refine aw_iload_n (npc := 3) rfl dX8_thinks_2 rfl ?_
  refine aw_bipush (npc := 5) (v := 62) (by decide) dX8_thinks_3 rfl ?_
  refine aw_icmp_ge (npc := 8) (tgt := 26) dX8_thinks_5 rfl (by decide) (fun hc => absurd hc (by decide)) (fun _ => ?_)
  refine aw_aload_n (npc := 9) rfl dX8_thinks_8 rfl ?_
  refine aw_get (npc := 12) dX8_thinks_9 rfl kf_X8_26 (am_ne (by decide) g69) rfl ?_
  refine aw_iload_n (npc := 13) rfl dX8_thinks_12 rfl ?_
  refine aw_aload_n (npc := 14) rfl dX8_thinks_13 rfl ?_
  refine aw_get (npc := 17) dX8_thinks_14 rfl kf_X8_9 (am_ne (by decide) g69) rfl ?_
  refine aw_iload_n (npc := 18) rfl dX8_thinks_17 rfl ?_
  refine aw_iald (npc := 19) (x := 1) (j := 18) dX8_thinks_18 rfl (am_ne (by decide) g70) ⟨by decide, by decide⟩ rfl ?_
  refine aw_iast (npc := 20) (j := 18) dX8_thinks_19 rfl am_eq ⟨by decide, by decide⟩ (Nat.le_of_ble_eq_true rfl) am_uu ?_
  refine aw_iinc (npc := 23) (v := 19) (L' := [some (.ref 69), some (.int 19)]) dX8_thinks_20 rfl rfl (by decide) (by decide) rfl rfl ?_
  refine aw_goto (npc := 2) dX8_thinks_23 (by decide) ?_
  refine aw_iload_n (npc := 3) rfl dX8_thinks_2 rfl ?_
  refine aw_bipush (npc := 5) (v := 62) (by decide) dX8_thinks_3 rfl ?_
  refine aw_icmp_ge (npc := 8) (tgt := 26) dX8_thinks_5 rfl (by decide) (fun hc => absurd hc (by decide)) (fun _ => ?_)
  refine aw_aload_n (npc := 9) rfl dX8_thinks_8 rfl ?_
  refine aw_get (npc := 12) dX8_thinks_9 rfl kf_X8_26 (am_ne (by decide) g69) rfl ?_
  refine aw_iload_n (npc := 13) rfl dX8_thinks_12 rfl ?_
  refine aw_aload_n (npc := 14) rfl dX8_thinks_13 rfl ?_
  refine aw_get (npc := 17) dX8_thinks_14 rfl kf_X8_9 (am_ne (by decide) g69) rfl ?_
  refine aw_iload_n (npc := 18) rfl dX8_thinks_17 rfl ?_
  refine aw_iald (npc := 19) (x := 1) (j := 19) dX8_thinks_18 rfl (am_ne (by decide) g70) ⟨by decide, by decide⟩ rfl ?_
  refine aw_iast (npc := 20) (j := 19) dX8_thinks_19 rfl am_eq ⟨by decide, by decide⟩ (Nat.le_of_ble_eq_true rfl) am_uu ?_
  refine aw_iinc (npc := 23) (v := 20) (L' := [some (.ref 69), some (.int 20)]) dX8_thinks_20 rfl rfl (by decide) (by decide) rfl rfl ?_
  refine aw_goto (npc := 2) dX8_thinks_23 (by decide) ?_
  refine aw_iload_n (npc := 3) rfl dX8_thinks_2 rfl ?_
  refine aw_bipush (npc := 5) (v := 62) (by decide) dX8_thinks_3 rfl ?_
  refine aw_icmp_ge (npc := 8) (tgt := 26) dX8_thinks_5 rfl (by decide) (fun hc => absurd hc (by decide)) (fun _ => ?_)
  refine aw_aload_n (npc := 9) rfl dX8_thinks_8 rfl ?_
  refine aw_get (npc := 12) dX8_thinks_9 rfl kf_X8_26 (am_ne (by decide) g69) rfl ?_
  refine aw_iload_n (npc := 13) rfl dX8_thinks_12 rfl ?_
  refine aw_aload_n (npc := 14) rfl dX8_thinks_13 rfl ?_
  refine aw_get (npc := 17) dX8_thinks_14 rfl kf_X8_9 (am_ne (by decide) g69) rfl ?_
  refine aw_iload_n (npc := 18) rfl dX8_thinks_17 rfl ?_
  refine aw_iald (npc := 19) (x := 20) (j := 20) dX8_thinks_18 rfl (am_ne (by decide) g70) ⟨by decide, by decide⟩ rfl ?_
  refine aw_iast (npc := 20) (j := 20) dX8_thinks_19 rfl am_eq ⟨by decide, by decide⟩ (Nat.le_of_ble_eq_true rfl) am_uu ?_
  refine aw_iinc (npc := 23) (v := 21) (L' := [some (.ref 69), some (.int 21)]) dX8_thinks_20 rfl rfl (by decide) (by decide) rfl rfl ?_
  refine aw_goto (npc := 2) dX8_thinks_23 (by decide) ?_
  refine aw_iload_n (npc := 3) rfl dX8_thinks_2 rfl ?_
  refine aw_bipush (npc := 5) (v := 62) (by decide) dX8_thinks_3 rfl ?_
  refine aw_icmp_ge (npc := 8) (tgt := 26) dX8_thinks_5 rfl (by decide) (fun hc => absurd hc (by decide)) (fun _ => ?_)
  refine aw_aload_n (npc := 9) rfl dX8_thinks_8 rfl ?_
  refine aw_get (npc := 12) dX8_thinks_9 rfl kf_X8_26 (am_ne (by decide) g69) rfl ?_
  refine aw_iload_n (npc := 13) rfl dX8_thinks_12 rfl ?_
  refine aw_aload_n (npc := 14) rfl dX8_thinks_13 rfl ?_
  refine aw_get (npc := 17) dX8_thinks_14 rfl kf_X8_9 (am_ne (by decide) g69) rfl ?_
  refine aw_iload_n (npc := 18) rfl dX8_thinks_17 rfl ?_
  refine aw_iald (npc := 19) (x := 20) (j := 21) dX8_thinks_18 rfl (am_ne (by decide) g70) ⟨by decide, by decide⟩ rfl ?_
  refine aw_iast (npc := 20) (j := 21) dX8_thinks_19 rfl am_eq ⟨by decide, by decide⟩ (Nat.le_of_ble_eq_true rfl) am_uu ?_
  refine aw_iinc (npc := 23) (v := 22) (L' := [some (.ref 69), some (.int 22)]) dX8_thinks_20 rfl rfl (by decide) (by decide) rfl rfl ?_
  refine aw_goto (npc := 2) dX8_thinks_23 (by decide) ?_
  refine aw_iload_n (npc := 3) rfl dX8_thinks_2 rfl ?_
  refine aw_bipush (npc := 5) (v := 62) (by decide) dX8_thinks_3 rfl ?_
  refine aw_icmp_ge (npc := 8) (tgt := 26) dX8_thinks_5 rfl (by decide) (fun hc => absurd hc (by decide)) (fun _ => ?_)
  refine aw_aload_n (npc := 9) rfl dX8_thinks_8 rfl ?_
  refine aw_get (npc := 12) dX8_thinks_9 rfl kf_X8_26 (am_ne (by decide) g69) rfl ?_
  refine aw_iload_n (npc := 13) rfl dX8_thinks_12 rfl ?_
  refine aw_aload_n (npc := 14) rfl dX8_thinks_13 rfl ?_
  refine aw_get (npc := 17) dX8_thinks_14 rfl kf_X8_9 (am_ne (by decide) g69) rfl ?_
  refine aw_iload_n (npc := 18) rfl dX8_thinks_17 rfl ?_
  refine aw_iald (npc := 19) (x := 0) (j := 22) dX8_thinks_18 rfl (am_ne (by decide) g70) ⟨by decide, by decide⟩ rfl ?_
  refine aw_iast (npc := 20) (j := 22) dX8_thinks_19 rfl am_eq ⟨by decide, by decide⟩ (Nat.le_of_ble_eq_true rfl) am_uu ?_
  refine aw_iinc (npc := 23) (v := 23) (L' := [some (.ref 69), some (.int 23)]) dX8_thinks_20 rfl rfl (by decide) (by decide) rfl rfl ?_
  refine aw_goto (npc := 2) dX8_thinks_23 (by decide) ?_
  refine aw_iload_n (npc := 3) rfl dX8_thinks_2 rfl ?_
  refine aw_bipush (npc := 5) (v := 62) (by decide) dX8_thinks_3 rfl ?_
  refine aw_icmp_ge (npc := 8) (tgt := 26) dX8_thinks_5 rfl (by decide) (fun hc => absurd hc (by decide)) (fun _ => ?_)
  refine aw_aload_n (npc := 9) rfl dX8_thinks_8 rfl ?_
  refine aw_get (npc := 12) dX8_thinks_9 rfl kf_X8_26 (am_ne (by decide) g69) rfl ?_
  refine aw_iload_n (npc := 13) rfl dX8_thinks_12 rfl ?_
  refine aw_aload_n (npc := 14) rfl dX8_thinks_13 rfl ?_
  refine aw_get (npc := 17) dX8_thinks_14 rfl kf_X8_9 (am_ne (by decide) g69) rfl ?_
  refine aw_iload_n (npc := 18) rfl dX8_thinks_17 rfl ?_
  refine aw_iald (npc := 19) (x := 0) (j := 23) dX8_thinks_18 rfl (am_ne (by decide) g70) ⟨by decide, by decide⟩ rfl ?_
  refine aw_iast (npc := 20) (j := 23) dX8_thinks_19 rfl am_eq ⟨by decide, by decide⟩ (Nat.le_of_ble_eq_true rfl) am_uu ?_
  refine aw_iinc (npc := 23) (v := 24) (L' := [some (.ref 69), some (.int 24)]) dX8_thinks_20 rfl rfl (by decide) (by decide) rfl rfl ?_
  refine aw_goto (npc := 2) dX8_thinks_23 (by decide) ?_
  refine aw_iload_n (npc := 3) rfl dX8_thinks_2 rfl ?_
  refine aw_bipush (npc := 5) (v := 62) (by decide) dX8_thinks_3 rfl ?_
  refine aw_icmp_ge (npc := 8) (tgt := 26) dX8_thinks_5 rfl (by decide) (fun hc => absurd hc (by decide)) (fun _ => ?_)
  refine aw_aload_n (npc := 9) rfl dX8_thinks_8 rfl ?_
  refine aw_get (npc := 12) dX8_thinks_9 rfl kf_X8_26 (am_ne (by decide) g69) rfl ?_
  refine aw_iload_n (npc := 13) rfl dX8_thinks_12 rfl ?_
  refine aw_aload_n (npc := 14) rfl dX8_thinks_13 rfl ?_
  refine aw_get (npc := 17) dX8_thinks_14 rfl kf_X8_9 (am_ne (by decide) g69) rfl ?_
  refine aw_iload_n (npc := 18) rfl dX8_thinks_17 rfl ?_
  refine aw_iald (npc := 19) (x := 0) (j := 24) dX8_thinks_18 rfl (am_ne (by decide) g70) ⟨by decide, by decide⟩ rfl ?_
  refine aw_iast (npc := 20) (j := 24) dX8_thinks_19 rfl am_eq ⟨by decide, by decide⟩ (Nat.le_of_ble_eq_true rfl) am_uu ?_
  refine aw_iinc (npc := 23) (v := 25) (L' := [some (.ref 69), some (.int 25)]) dX8_thinks_20 rfl rfl (by decide) (by decide) rfl rfl ?_
  refine aw_goto (npc := 2) dX8_thinks_23 (by decide) ?_
  refine aw_iload_n (npc := 3) rfl dX8_thinks_2 rfl ?_
  refine aw_bipush (npc := 5) (v := 62) (by decide) dX8_thinks_3 rfl ?_
  refine aw_icmp_ge (npc := 8) (tgt := 26) dX8_thinks_5 rfl (by decide) (fun hc => absurd hc (by decide)) (fun _ => ?_)
  refine aw_aload_n (npc := 9) rfl dX8_thinks_8 rfl ?_
  refine aw_get (npc := 12) dX8_thinks_9 rfl kf_X8_26 (am_ne (by decide) g69) rfl ?_
  refine aw_iload_n (npc := 13) rfl dX8_thinks_12 rfl ?_
  refine aw_aload_n (npc := 14) rfl dX8_thinks_13 rfl ?_
  refine aw_get (npc := 17) dX8_thinks_14 rfl kf_X8_9 (am_ne (by decide) g69) rfl ?_
  refine aw_iload_n (npc := 18) rfl dX8_thinks_17 rfl ?_
  refine aw_iald (npc := 19) (x := 0) (j := 25) dX8_thinks_18 rfl (am_ne (by decide) g70) ⟨by decide, by decide⟩ rfl ?_
  refine aw_iast (npc := 20) (j := 25) dX8_thinks_19 rfl am_eq ⟨by decide, by decide⟩ (Nat.le_of_ble_eq_true rfl) am_uu ?_
  refine aw_iinc (npc := 23) (v := 26) (L' := [some (.ref 69), some (.int 26)]) dX8_thinks_20 rfl rfl (by decide) (by decide) rfl rfl ?_
  refine aw_goto (npc := 2) dX8_thinks_23 (by decide) ?_
  refine aw_iload_n (npc := 3) rfl dX8_thinks_2 rfl ?_
  refine aw_bipush (npc := 5) (v := 62) (by decide) dX8_thinks_3 rfl ?_
  refine aw_icmp_ge (npc := 8) (tgt := 26) dX8_thinks_5 rfl (by decide) (fun hc => absurd hc (by decide)) (fun _ => ?_)
  refine aw_aload_n (npc := 9) rfl dX8_thinks_8 rfl ?_
  refine aw_get (npc := 12) dX8_thinks_9 rfl kf_X8_26 (am_ne (by decide) g69) rfl ?_
  refine aw_iload_n (npc := 13) rfl dX8_thinks_12 rfl ?_
  refine aw_aload_n (npc := 14) rfl dX8_thinks_13 rfl ?_
  refine aw_get (npc := 17) dX8_thinks_14 rfl kf_X8_9 (am_ne (by decide) g69) rfl ?_
  refine aw_iload_n (npc := 18) rfl dX8_thinks_17 rfl ?_
  refine aw_iald (npc := 19) (x := 0) (j := 26) dX8_thinks_18 rfl (am_ne (by decide) g70) ⟨by decide, by decide⟩ rfl ?_
  refine aw_iast (npc := 20) (j := 26) dX8_thinks_19 rfl am_eq ⟨by decide, by decide⟩ (Nat.le_of_ble_eq_true rfl) am_uu ?_
  refine aw_iinc (npc := 23) (v := 27) (L' := [some (.ref 69), some (.int 27)]) dX8_thinks_20 rfl rfl (by decide) (by decide) rfl rfl ?_
  refine aw_goto (npc := 2) dX8_thinks_23 (by decide) ?_
  refine aw_iload_n (npc := 3) rfl dX8_thinks_2 rfl ?_
  refine aw_bipush (npc := 5) (v := 62) (by decide) dX8_thinks_3 rfl ?_
  refine aw_icmp_ge (npc := 8) (tgt := 26) dX8_thinks_5 rfl (by decide) (fun hc => absurd hc (by decide)) (fun _ => ?_)
  refine aw_aload_n (npc := 9) rfl dX8_thinks_8 rfl ?_
  refine aw_get (npc := 12) dX8_thinks_9 rfl kf_X8_26 (am_ne (by decide) g69) rfl ?_
  refine aw_iload_n (npc := 13) rfl dX8_thinks_12 rfl ?_
  refine aw_aload_n (npc := 14) rfl dX8_thinks_13 rfl ?_
  refine aw_get (npc := 17) dX8_thinks_14 rfl kf_X8_9 (am_ne (by decide) g69) rfl ?_
  refine aw_iload_n (npc := 18) rfl dX8_thinks_17 rfl ?_
  refine aw_iald (npc := 19) (x := 0) (j := 27) dX8_thinks_18 rfl (am_ne (by decide) g70) ⟨by decide, by decide⟩ rfl ?_
  refine aw_iast (npc := 20) (j := 27) dX8_thinks_19 rfl am_eq ⟨by decide, by decide⟩ (Nat.le_of_ble_eq_true rfl) am_uu ?_
  refine aw_iinc (npc := 23) (v := 28) (L' := [some (.ref 69), some (.int 28)]) dX8_thinks_20 rfl rfl (by decide) (by decide) rfl rfl ?_
  refine aw_goto (npc := 2) dX8_thinks_23 (by decide) ?_
  refine aw_iload_n (npc := 3) rfl dX8_thinks_2 rfl ?_
  refine aw_bipush (npc := 5) (v := 62) (by decide) dX8_thinks_3 rfl ?_
  refine aw_icmp_ge (npc := 8) (tgt := 26) dX8_thinks_5 rfl (by decide) (fun hc => absurd hc (by decide)) (fun _ => ?_)
  refine aw_aload_n (npc := 9) rfl dX8_thinks_8 rfl ?_
  refine aw_get (npc := 12) dX8_thinks_9 rfl kf_X8_26 (am_ne (by decide) g69) rfl ?_
  refine aw_iload_n (npc := 13) rfl dX8_thinks_12 rfl ?_
  refine aw_aload_n (npc := 14) rfl dX8_thinks_13 rfl ?_
  refine aw_get (npc := 17) dX8_thinks_14 rfl kf_X8_9 (am_ne (by decide) g69) rfl ?_
  refine aw_iload_n (npc := 18) rfl dX8_thinks_17 rfl ?_
  refine aw_iald (npc := 19) (x := 0) (j := 28) dX8_thinks_18 rfl (am_ne (by decide) g70) ⟨by decide, by decide⟩ rfl ?_
  refine aw_iast (npc := 20) (j := 28) dX8_thinks_19 rfl am_eq ⟨by decide, by decide⟩ (Nat.le_of_ble_eq_true rfl) am_uu ?_
  refine aw_iinc (npc := 23) (v := 29) (L' := [some (.ref 69), some (.int 29)]) dX8_thinks_20 rfl rfl (by decide) (by decide) rfl rfl ?_
  refine aw_goto (npc := 2) dX8_thinks_23 (by decide) ?_
  refine aw_iload_n (npc := 3) rfl dX8_thinks_2 rfl ?_
  refine aw_bipush (npc := 5) (v := 62) (by decide) dX8_thinks_3 rfl ?_
  refine aw_icmp_ge (npc := 8) (tgt := 26) dX8_thinks_5 rfl (by decide) (fun hc => absurd hc (by decide)) (fun _ => ?_)
  refine aw_aload_n (npc := 9) rfl dX8_thinks_8 rfl ?_
  refine aw_get (npc := 12) dX8_thinks_9 rfl kf_X8_26 (am_ne (by decide) g69) rfl ?_
  refine aw_iload_n (npc := 13) rfl dX8_thinks_12 rfl ?_
  refine aw_aload_n (npc := 14) rfl dX8_thinks_13 rfl ?_
  refine aw_get (npc := 17) dX8_thinks_14 rfl kf_X8_9 (am_ne (by decide) g69) rfl ?_
  refine aw_iload_n (npc := 18) rfl dX8_thinks_17 rfl ?_
  refine aw_iald (npc := 19) (x := 0) (j := 29) dX8_thinks_18 rfl (am_ne (by decide) g70) ⟨by decide, by decide⟩ rfl ?_
  refine aw_iast (npc := 20) (j := 29) dX8_thinks_19 rfl am_eq ⟨by decide, by decide⟩ (Nat.le_of_ble_eq_true rfl) am_uu ?_
  refine aw_iinc (npc := 23) (v := 30) (L' := [some (.ref 69), some (.int 30)]) dX8_thinks_20 rfl rfl (by decide) (by decide) rfl rfl ?_
  refine aw_goto (npc := 2) dX8_thinks_23 (by decide) ?_
  refine aw_iload_n (npc := 3) rfl dX8_thinks_2 rfl ?_
  refine aw_bipush (npc := 5) (v := 62) (by decide) dX8_thinks_3 rfl ?_
  refine aw_icmp_ge (npc := 8) (tgt := 26) dX8_thinks_5 rfl (by decide) (fun hc => absurd hc (by decide)) (fun _ => ?_)
  refine aw_aload_n (npc := 9) rfl dX8_thinks_8 rfl ?_
  refine aw_get (npc := 12) dX8_thinks_9 rfl kf_X8_26 (am_ne (by decide) g69) rfl ?_
  refine aw_iload_n (npc := 13) rfl dX8_thinks_12 rfl ?_
  refine aw_aload_n (npc := 14) rfl dX8_thinks_13 rfl ?_
  refine aw_get (npc := 17) dX8_thinks_14 rfl kf_X8_9 (am_ne (by decide) g69) rfl ?_
  refine aw_iload_n (npc := 18) rfl dX8_thinks_17 rfl ?_
  refine aw_iald (npc := 19) (x := 0) (j := 30) dX8_thinks_18 rfl (am_ne (by decide) g70) ⟨by decide, by decide⟩ rfl ?_
  refine aw_iast (npc := 20) (j := 30) dX8_thinks_19 rfl am_eq ⟨by decide, by decide⟩ (Nat.le_of_ble_eq_true rfl) am_uu ?_
  refine aw_iinc (npc := 23) (v := 31) (L' := [some (.ref 69), some (.int 31)]) dX8_thinks_20 rfl rfl (by decide) (by decide) rfl rfl ?_
  refine aw_goto (npc := 2) dX8_thinks_23 (by decide) ?_
  refine aw_iload_n (npc := 3) rfl dX8_thinks_2 rfl ?_
  refine aw_bipush (npc := 5) (v := 62) (by decide) dX8_thinks_3 rfl ?_
  refine aw_icmp_ge (npc := 8) (tgt := 26) dX8_thinks_5 rfl (by decide) (fun hc => absurd hc (by decide)) (fun _ => ?_)
  refine aw_aload_n (npc := 9) rfl dX8_thinks_8 rfl ?_
  refine aw_get (npc := 12) dX8_thinks_9 rfl kf_X8_26 (am_ne (by decide) g69) rfl ?_
  refine aw_iload_n (npc := 13) rfl dX8_thinks_12 rfl ?_
  refine aw_aload_n (npc := 14) rfl dX8_thinks_13 rfl ?_
  refine aw_get (npc := 17) dX8_thinks_14 rfl kf_X8_9 (am_ne (by decide) g69) rfl ?_
  refine aw_iload_n (npc := 18) rfl dX8_thinks_17 rfl ?_
  refine aw_iald (npc := 19) (x := 0) (j := 31) dX8_thinks_18 rfl (am_ne (by decide) g70) ⟨by decide, by decide⟩ rfl ?_
  refine aw_iast (npc := 20) (j := 31) dX8_thinks_19 rfl am_eq ⟨by decide, by decide⟩ (Nat.le_of_ble_eq_true rfl) am_uu ?_
  refine aw_iinc (npc := 23) (v := 32) (L' := [some (.ref 69), some (.int 32)]) dX8_thinks_20 rfl rfl (by decide) (by decide) rfl rfl ?_
  refine aw_goto (npc := 2) dX8_thinks_23 (by decide) ?_
  refine aw_iload_n (npc := 3) rfl dX8_thinks_2 rfl ?_
  refine aw_bipush (npc := 5) (v := 62) (by decide) dX8_thinks_3 rfl ?_
  refine aw_icmp_ge (npc := 8) (tgt := 26) dX8_thinks_5 rfl (by decide) (fun hc => absurd hc (by decide)) (fun _ => ?_)
  refine aw_aload_n (npc := 9) rfl dX8_thinks_8 rfl ?_
  refine aw_get (npc := 12) dX8_thinks_9 rfl kf_X8_26 (am_ne (by decide) g69) rfl ?_
  refine aw_iload_n (npc := 13) rfl dX8_thinks_12 rfl ?_
  refine aw_aload_n (npc := 14) rfl dX8_thinks_13 rfl ?_
  refine aw_get (npc := 17) dX8_thinks_14 rfl kf_X8_9 (am_ne (by decide) g69) rfl ?_
  refine aw_iload_n (npc := 18) rfl dX8_thinks_17 rfl ?_
  refine aw_iald (npc := 19) (x := 0) (j := 32) dX8_thinks_18 rfl (am_ne (by decide) g70) ⟨by decide, by decide⟩ rfl ?_
  refine aw_iast (npc := 20) (j := 32) dX8_thinks_19 rfl am_eq ⟨by decide, by decide⟩ (Nat.le_of_ble_eq_true rfl) am_uu ?_
  refine aw_iinc (npc := 23) (v := 33) (L' := [some (.ref 69), some (.int 33)]) dX8_thinks_20 rfl rfl (by decide) (by decide) rfl rfl ?_
  refine aw_goto (npc := 2) dX8_thinks_23 (by decide) ?_
  refine aw_iload_n (npc := 3) rfl dX8_thinks_2 rfl ?_
  refine aw_bipush (npc := 5) (v := 62) (by decide) dX8_thinks_3 rfl ?_
  refine aw_icmp_ge (npc := 8) (tgt := 26) dX8_thinks_5 rfl (by decide) (fun hc => absurd hc (by decide)) (fun _ => ?_)
  refine aw_aload_n (npc := 9) rfl dX8_thinks_8 rfl ?_
  refine aw_get (npc := 12) dX8_thinks_9 rfl kf_X8_26 (am_ne (by decide) g69) rfl ?_
  refine aw_iload_n (npc := 13) rfl dX8_thinks_12 rfl ?_
  refine aw_aload_n (npc := 14) rfl dX8_thinks_13 rfl ?_
  refine aw_get (npc := 17) dX8_thinks_14 rfl kf_X8_9 (am_ne (by decide) g69) rfl ?_
  refine aw_iload_n (npc := 18) rfl dX8_thinks_17 rfl ?_
  refine aw_iald (npc := 19) (x := 0) (j := 33) dX8_thinks_18 rfl (am_ne (by decide) g70) ⟨by decide, by decide⟩ rfl ?_
  refine aw_iast (npc := 20) (j := 33) dX8_thinks_19 rfl am_eq ⟨by decide, by decide⟩ (Nat.le_of_ble_eq_true rfl) am_uu ?_
  refine aw_iinc (npc := 23) (v := 34) (L' := [some (.ref 69), some (.int 34)]) dX8_thinks_20 rfl rfl (by decide) (by decide) rfl rfl ?_
  refine aw_goto (npc := 2) dX8_thinks_23 (by decide) ?_
  refine aw_iload_n (npc := 3) rfl dX8_thinks_2 rfl ?_
  refine aw_bipush (npc := 5) (v := 62) (by decide) dX8_thinks_3 rfl ?_
  refine aw_icmp_ge (npc := 8) (tgt := 26) dX8_thinks_5 rfl (by decide) (fun hc => absurd hc (by decide)) (fun _ => ?_)
  refine aw_aload_n (npc := 9) rfl dX8_thinks_8 rfl ?_
  refine aw_get (npc := 12) dX8_thinks_9 rfl kf_X8_26 (am_ne (by decide) g69) rfl ?_
  refine aw_iload_n (npc := 13) rfl dX8_thinks_12 rfl ?_
  refine aw_aload_n (npc := 14) rfl dX8_thinks_13 rfl ?_
  refine aw_get (npc := 17) dX8_thinks_14 rfl kf_X8_9 (am_ne (by decide) g69) rfl ?_
  refine aw_iload_n (npc := 18) rfl dX8_thinks_17 rfl ?_
  refine aw_iald (npc := 19) (x := 0) (j := 34) dX8_thinks_18 rfl (am_ne (by decide) g70) ⟨by decide, by decide⟩ rfl ?_
  refine aw_iast (npc := 20) (j := 34) dX8_thinks_19 rfl am_eq ⟨by decide, by decide⟩ (Nat.le_of_ble_eq_true rfl) am_uu ?_
  refine aw_iinc (npc := 23) (v := 35) (L' := [some (.ref 69), some (.int 35)]) dX8_thinks_20 rfl rfl (by decide) (by decide) rfl rfl ?_
  refine aw_goto (npc := 2) dX8_thinks_23 (by decide) ?_
  refine aw_iload_n (npc := 3) rfl dX8_thinks_2 rfl ?_
  refine aw_bipush (npc := 5) (v := 62) (by decide) dX8_thinks_3 rfl ?_
  refine aw_icmp_ge (npc := 8) (tgt := 26) dX8_thinks_5 rfl (by decide) (fun hc => absurd hc (by decide)) (fun _ => ?_)
  refine aw_aload_n (npc := 9) rfl dX8_thinks_8 rfl ?_
  refine aw_get (npc := 12) dX8_thinks_9 rfl kf_X8_26 (am_ne (by decide) g69) rfl ?_
  refine aw_iload_n (npc := 13) rfl dX8_thinks_12 rfl ?_
  refine aw_aload_n (npc := 14) rfl dX8_thinks_13 rfl ?_
  refine aw_get (npc := 17) dX8_thinks_14 rfl kf_X8_9 (am_ne (by decide) g69) rfl ?_
  refine aw_iload_n (npc := 18) rfl dX8_thinks_17 rfl ?_
  refine aw_iald (npc := 19) (x := 0) (j := 35) dX8_thinks_18 rfl (am_ne (by decide) g70) ⟨by decide, by decide⟩ rfl ?_
  refine aw_iast (npc := 20) (j := 35) dX8_thinks_19 rfl am_eq ⟨by decide, by decide⟩ (Nat.le_of_ble_eq_true rfl) am_uu ?_
  refine aw_iinc (npc := 23) (v := 36) (L' := [some (.ref 69), some (.int 36)]) dX8_thinks_20 rfl rfl (by decide) (by decide) rfl rfl ?_
  refine aw_goto (npc := 2) dX8_thinks_23 (by decide) ?_
  refine aw_iload_n (npc := 3) rfl dX8_thinks_2 rfl ?_
  refine aw_bipush (npc := 5) (v := 62) (by decide) dX8_thinks_3 rfl ?_
  refine aw_icmp_ge (npc := 8) (tgt := 26) dX8_thinks_5 rfl (by decide) (fun hc => absurd hc (by decide)) (fun _ => ?_)
  refine aw_aload_n (npc := 9) rfl dX8_thinks_8 rfl ?_
  refine aw_get (npc := 12) dX8_thinks_9 rfl kf_X8_26 (am_ne (by decide) g69) rfl ?_
  refine aw_iload_n (npc := 13) rfl dX8_thinks_12 rfl ?_
  refine aw_aload_n (npc := 14) rfl dX8_thinks_13 rfl ?_
  refine aw_get (npc := 17) dX8_thinks_14 rfl kf_X8_9 (am_ne (by decide) g69) rfl ?_
  refine aw_iload_n (npc := 18) rfl dX8_thinks_17 rfl ?_
  refine aw_iald (npc := 19) (x := 0) (j := 36) dX8_thinks_18 rfl (am_ne (by decide) g70) ⟨by decide, by decide⟩ rfl ?_
  refine aw_iast (npc := 20) (j := 36) dX8_thinks_19 rfl am_eq ⟨by decide, by decide⟩ (Nat.le_of_ble_eq_true rfl) am_uu ?_
  refine aw_iinc (npc := 23) (v := 37) (L' := [some (.ref 69), some (.int 37)]) dX8_thinks_20 rfl rfl (by decide) (by decide) rfl rfl ?_
  refine aw_goto (npc := 2) dX8_thinks_23 (by decide) ?_
  refine aw_iload_n (npc := 3) rfl dX8_thinks_2 rfl ?_
  refine aw_bipush (npc := 5) (v := 62) (by decide) dX8_thinks_3 rfl ?_
  refine aw_icmp_ge (npc := 8) (tgt := 26) dX8_thinks_5 rfl (by decide) (fun hc => absurd hc (by decide)) (fun _ => ?_)
  refine aw_aload_n (npc := 9) rfl dX8_thinks_8 rfl ?_
  refine aw_get (npc := 12) dX8_thinks_9 rfl kf_X8_26 (am_ne (by decide) g69) rfl ?_
  refine aw_iload_n (npc := 13) rfl dX8_thinks_12 rfl ?_
  refine aw_aload_n (npc := 14) rfl dX8_thinks_13 rfl ?_
  refine aw_get (npc := 17) dX8_thinks_14 rfl kf_X8_9 (am_ne (by decide) g69) rfl ?_
  refine aw_iload_n (npc := 18) rfl dX8_thinks_17 rfl ?_
  refine aw_iald (npc := 19) (x := 0) (j := 37) dX8_thinks_18 rfl (am_ne (by decide) g70) ⟨by decide, by decide⟩ rfl ?_
  refine aw_iast (npc := 20) (j := 37) dX8_thinks_19 rfl am_eq ⟨by decide, by decide⟩ (Nat.le_of_ble_eq_true rfl) am_uu ?_
  refine aw_iinc (npc := 23) (v := 38) (L' := [some (.ref 69), some (.int 38)]) dX8_thinks_20 rfl rfl (by decide) (by decide) rfl rfl ?_
  refine aw_goto (npc := 2) dX8_thinks_23 (by decide) ?_
  refine aw_iload_n (npc := 3) rfl dX8_thinks_2 rfl ?_
  refine aw_bipush (npc := 5) (v := 62) (by decide) dX8_thinks_3 rfl ?_
  refine aw_icmp_ge (npc := 8) (tgt := 26) dX8_thinks_5 rfl (by decide) (fun hc => absurd hc (by decide)) (fun _ => ?_)
  refine aw_aload_n (npc := 9) rfl dX8_thinks_8 rfl ?_
  refine aw_get (npc := 12) dX8_thinks_9 rfl kf_X8_26 (am_ne (by decide) g69) rfl ?_
  refine aw_iload_n (npc := 13) rfl dX8_thinks_12 rfl ?_
  refine aw_aload_n (npc := 14) rfl dX8_thinks_13 rfl ?_
  refine aw_get (npc := 17) dX8_thinks_14 rfl kf_X8_9 (am_ne (by decide) g69) rfl ?_
  refine aw_iload_n (npc := 18) rfl dX8_thinks_17 rfl ?_
  refine aw_iald (npc := 19) (x := 0) (j := 38) dX8_thinks_18 rfl (am_ne (by decide) g70) ⟨by decide, by decide⟩ rfl ?_
  refine aw_iast (npc := 20) (j := 38) dX8_thinks_19 rfl am_eq ⟨by decide, by decide⟩ (Nat.le_of_ble_eq_true rfl) am_uu ?_
  refine aw_iinc (npc := 23) (v := 39) (L' := [some (.ref 69), some (.int 39)]) dX8_thinks_20 rfl rfl (by decide) (by decide) rfl rfl ?_
  refine aw_goto (npc := 2) dX8_thinks_23 (by decide) ?_
  refine aw_iload_n (npc := 3) rfl dX8_thinks_2 rfl ?_
  refine aw_bipush (npc := 5) (v := 62) (by decide) dX8_thinks_3 rfl ?_
  refine aw_icmp_ge (npc := 8) (tgt := 26) dX8_thinks_5 rfl (by decide) (fun hc => absurd hc (by decide)) (fun _ => ?_)
  refine aw_aload_n (npc := 9) rfl dX8_thinks_8 rfl ?_
  refine aw_get (npc := 12) dX8_thinks_9 rfl kf_X8_26 (am_ne (by decide) g69) rfl ?_
  refine aw_iload_n (npc := 13) rfl dX8_thinks_12 rfl ?_
  refine aw_aload_n (npc := 14) rfl dX8_thinks_13 rfl ?_
  refine aw_get (npc := 17) dX8_thinks_14 rfl kf_X8_9 (am_ne (by decide) g69) rfl ?_
  refine aw_iload_n (npc := 18) rfl dX8_thinks_17 rfl ?_
  refine aw_iald (npc := 19) (x := 0) (j := 39) dX8_thinks_18 rfl (am_ne (by decide) g70) ⟨by decide, by decide⟩ rfl ?_
  refine aw_iast (npc := 20) (j := 39) dX8_thinks_19 rfl am_eq ⟨by decide, by decide⟩ (Nat.le_of_ble_eq_true rfl) am_uu ?_
  refine aw_iinc (npc := 23) (v := 40) (L' := [some (.ref 69), some (.int 40)]) dX8_thinks_20 rfl rfl (by decide) (by decide) rfl rfl ?_
  refine aw_goto (npc := 2) dX8_thinks_23 (by decide) ?_
  refine aw_iload_n (npc := 3) rfl dX8_thinks_2 rfl ?_
  refine aw_bipush (npc := 5) (v := 62) (by decide) dX8_thinks_3 rfl ?_
  refine aw_icmp_ge (npc := 8) (tgt := 26) dX8_thinks_5 rfl (by decide) (fun hc => absurd hc (by decide)) (fun _ => ?_)
  refine aw_aload_n (npc := 9) rfl dX8_thinks_8 rfl ?_
  refine aw_get (npc := 12) dX8_thinks_9 rfl kf_X8_26 (am_ne (by decide) g69) rfl ?_
  refine aw_iload_n (npc := 13) rfl dX8_thinks_12 rfl ?_
  refine aw_aload_n (npc := 14) rfl dX8_thinks_13 rfl ?_
  refine aw_get (npc := 17) dX8_thinks_14 rfl kf_X8_9 (am_ne (by decide) g69) rfl ?_
  refine aw_iload_n (npc := 18) rfl dX8_thinks_17 rfl ?_
  refine aw_iald (npc := 19) (x := 0) (j := 40) dX8_thinks_18 rfl (am_ne (by decide) g70) ⟨by decide, by decide⟩ rfl ?_
  refine aw_iast (npc := 20) (j := 40) dX8_thinks_19 rfl am_eq ⟨by decide, by decide⟩ (Nat.le_of_ble_eq_true rfl) am_uu ?_
  refine aw_iinc (npc := 23) (v := 41) (L' := [some (.ref 69), some (.int 41)]) dX8_thinks_20 rfl rfl (by decide) (by decide) rfl rfl ?_
  refine aw_goto (npc := 2) dX8_thinks_23 (by decide) ?_
  refine aw_iload_n (npc := 3) rfl dX8_thinks_2 rfl ?_
  refine aw_bipush (npc := 5) (v := 62) (by decide) dX8_thinks_3 rfl ?_
  refine aw_icmp_ge (npc := 8) (tgt := 26) dX8_thinks_5 rfl (by decide) (fun hc => absurd hc (by decide)) (fun _ => ?_)
  refine aw_aload_n (npc := 9) rfl dX8_thinks_8 rfl ?_
  refine aw_get (npc := 12) dX8_thinks_9 rfl kf_X8_26 (am_ne (by decide) g69) rfl ?_
  refine aw_iload_n (npc := 13) rfl dX8_thinks_12 rfl ?_
  refine aw_aload_n (npc := 14) rfl dX8_thinks_13 rfl ?_
  refine aw_get (npc := 17) dX8_thinks_14 rfl kf_X8_9 (am_ne (by decide) g69) rfl ?_
  refine aw_iload_n (npc := 18) rfl dX8_thinks_17 rfl ?_
  refine aw_iald (npc := 19) (x := 0) (j := 41) dX8_thinks_18 rfl (am_ne (by decide) g70) ⟨by decide, by decide⟩ rfl ?_
  refine aw_iast (npc := 20) (j := 41) dX8_thinks_19 rfl am_eq ⟨by decide, by decide⟩ (Nat.le_of_ble_eq_true rfl) am_uu ?_
  refine aw_iinc (npc := 23) (v := 42) (L' := [some (.ref 69), some (.int 42)]) dX8_thinks_20 rfl rfl (by decide) (by decide) rfl rfl ?_
  refine aw_goto (npc := 2) dX8_thinks_23 (by decide) ?_
  refine aw_iload_n (npc := 3) rfl dX8_thinks_2 rfl ?_
  refine aw_bipush (npc := 5) (v := 62) (by decide) dX8_thinks_3 rfl ?_
  refine aw_icmp_ge (npc := 8) (tgt := 26) dX8_thinks_5 rfl (by decide) (fun hc => absurd hc (by decide)) (fun _ => ?_)
  refine aw_aload_n (npc := 9) rfl dX8_thinks_8 rfl ?_
  refine aw_get (npc := 12) dX8_thinks_9 rfl kf_X8_26 (am_ne (by decide) g69) rfl ?_
  refine aw_iload_n (npc := 13) rfl dX8_thinks_12 rfl ?_
  refine aw_aload_n (npc := 14) rfl dX8_thinks_13 rfl ?_
  refine aw_get (npc := 17) dX8_thinks_14 rfl kf_X8_9 (am_ne (by decide) g69) rfl ?_
  refine aw_iload_n (npc := 18) rfl dX8_thinks_17 rfl ?_
  refine aw_iald (npc := 19) (x := 0) (j := 42) dX8_thinks_18 rfl (am_ne (by decide) g70) ⟨by decide, by decide⟩ rfl ?_
  refine aw_iast (npc := 20) (j := 42) dX8_thinks_19 rfl am_eq ⟨by decide, by decide⟩ (Nat.le_of_ble_eq_true rfl) am_uu ?_
  refine aw_iinc (npc := 23) (v := 43) (L' := [some (.ref 69), some (.int 43)]) dX8_thinks_20 rfl rfl (by decide) (by decide) rfl rfl ?_
  refine aw_goto (npc := 2) dX8_thinks_23 (by decide) ?_
  refine aw_iload_n (npc := 3) rfl dX8_thinks_2 rfl ?_
  refine aw_bipush (npc := 5) (v := 62) (by decide) dX8_thinks_3 rfl ?_
  refine aw_icmp_ge (npc := 8) (tgt := 26) dX8_thinks_5 rfl (by decide) (fun hc => absurd hc (by decide)) (fun _ => ?_)
  refine aw_aload_n (npc := 9) rfl dX8_thinks_8 rfl ?_
  refine aw_get (npc := 12) dX8_thinks_9 rfl kf_X8_26 (am_ne (by decide) g69) rfl ?_
  refine aw_iload_n (npc := 13) rfl dX8_thinks_12 rfl ?_
  refine aw_aload_n (npc := 14) rfl dX8_thinks_13 rfl ?_
  refine aw_get (npc := 17) dX8_thinks_14 rfl kf_X8_9 (am_ne (by decide) g69) rfl ?_
  refine aw_iload_n (npc := 18) rfl dX8_thinks_17 rfl ?_
  refine aw_iald (npc := 19) (x := 0) (j := 43) dX8_thinks_18 rfl (am_ne (by decide) g70) ⟨by decide, by decide⟩ rfl ?_
  refine aw_iast (npc := 20) (j := 43) dX8_thinks_19 rfl am_eq ⟨by decide, by decide⟩ (Nat.le_of_ble_eq_true rfl) am_uu ?_
  refine aw_iinc (npc := 23) (v := 44) (L' := [some (.ref 69), some (.int 44)]) dX8_thinks_20 rfl rfl (by decide) (by decide) rfl rfl ?_
  refine aw_goto (npc := 2) dX8_thinks_23 (by decide) ?_
  refine aw_iload_n (npc := 3) rfl dX8_thinks_2 rfl ?_
  refine aw_bipush (npc := 5) (v := 62) (by decide) dX8_thinks_3 rfl ?_
  refine aw_icmp_ge (npc := 8) (tgt := 26) dX8_thinks_5 rfl (by decide) (fun hc => absurd hc (by decide)) (fun _ => ?_)
  refine aw_aload_n (npc := 9) rfl dX8_thinks_8 rfl ?_
  refine aw_get (npc := 12) dX8_thinks_9 rfl kf_X8_26 (am_ne (by decide) g69) rfl ?_
  refine aw_iload_n (npc := 13) rfl dX8_thinks_12 rfl ?_
  refine aw_aload_n (npc := 14) rfl dX8_thinks_13 rfl ?_
  refine aw_get (npc := 17) dX8_thinks_14 rfl kf_X8_9 (am_ne (by decide) g69) rfl ?_
  refine aw_iload_n (npc := 18) rfl dX8_thinks_17 rfl ?_
  refine aw_iald (npc := 19) (x := 0) (j := 44) dX8_thinks_18 rfl (am_ne (by decide) g70) ⟨by decide, by decide⟩ rfl ?_
  refine aw_iast (npc := 20) (j := 44) dX8_thinks_19 rfl am_eq ⟨by decide, by decide⟩ (Nat.le_of_ble_eq_true rfl) am_uu ?_
  refine aw_iinc (npc := 23) (v := 45) (L' := [some (.ref 69), some (.int 45)]) dX8_thinks_20 rfl rfl (by decide) (by decide) rfl rfl ?_
  refine aw_goto (npc := 2) dX8_thinks_23 (by decide) ?_
  refine aw_iload_n (npc := 3) rfl dX8_thinks_2 rfl ?_
  refine aw_bipush (npc := 5) (v := 62) (by decide) dX8_thinks_3 rfl ?_
  refine aw_icmp_ge (npc := 8) (tgt := 26) dX8_thinks_5 rfl (by decide) (fun hc => absurd hc (by decide)) (fun _ => ?_)
  refine aw_aload_n (npc := 9) rfl dX8_thinks_8 rfl ?_
  refine aw_get (npc := 12) dX8_thinks_9 rfl kf_X8_26 (am_ne (by decide) g69) rfl ?_
  refine aw_iload_n (npc := 13) rfl dX8_thinks_12 rfl ?_
  refine aw_aload_n (npc := 14) rfl dX8_thinks_13 rfl ?_
  refine aw_get (npc := 17) dX8_thinks_14 rfl kf_X8_9 (am_ne (by decide) g69) rfl ?_
  refine aw_iload_n (npc := 18) rfl dX8_thinks_17 rfl ?_
  refine aw_iald (npc := 19) (x := 0) (j := 45) dX8_thinks_18 rfl (am_ne (by decide) g70) ⟨by decide, by decide⟩ rfl ?_
  refine aw_iast (npc := 20) (j := 45) dX8_thinks_19 rfl am_eq ⟨by decide, by decide⟩ (Nat.le_of_ble_eq_true rfl) am_uu ?_
  refine aw_iinc (npc := 23) (v := 46) (L' := [some (.ref 69), some (.int 46)]) dX8_thinks_20 rfl rfl (by decide) (by decide) rfl rfl ?_
  refine aw_goto (npc := 2) dX8_thinks_23 (by decide) ?_
  refine aw_iload_n (npc := 3) rfl dX8_thinks_2 rfl ?_
  refine aw_bipush (npc := 5) (v := 62) (by decide) dX8_thinks_3 rfl ?_
  refine aw_icmp_ge (npc := 8) (tgt := 26) dX8_thinks_5 rfl (by decide) (fun hc => absurd hc (by decide)) (fun _ => ?_)
  refine aw_aload_n (npc := 9) rfl dX8_thinks_8 rfl ?_
  refine aw_get (npc := 12) dX8_thinks_9 rfl kf_X8_26 (am_ne (by decide) g69) rfl ?_
  refine aw_iload_n (npc := 13) rfl dX8_thinks_12 rfl ?_
  refine aw_aload_n (npc := 14) rfl dX8_thinks_13 rfl ?_
  refine aw_get (npc := 17) dX8_thinks_14 rfl kf_X8_9 (am_ne (by decide) g69) rfl ?_
  refine aw_iload_n (npc := 18) rfl dX8_thinks_17 rfl ?_
  refine aw_iald (npc := 19) (x := 0) (j := 46) dX8_thinks_18 rfl (am_ne (by decide) g70) ⟨by decide, by decide⟩ rfl ?_
  refine aw_iast (npc := 20) (j := 46) dX8_thinks_19 rfl am_eq ⟨by decide, by decide⟩ (Nat.le_of_ble_eq_true rfl) am_uu ?_
  refine aw_iinc (npc := 23) (v := 47) (L' := [some (.ref 69), some (.int 47)]) dX8_thinks_20 rfl rfl (by decide) (by decide) rfl rfl ?_
  refine aw_goto (npc := 2) dX8_thinks_23 (by decide) ?_
  refine aw_iload_n (npc := 3) rfl dX8_thinks_2 rfl ?_
  refine aw_bipush (npc := 5) (v := 62) (by decide) dX8_thinks_3 rfl ?_
  refine aw_icmp_ge (npc := 8) (tgt := 26) dX8_thinks_5 rfl (by decide) (fun hc => absurd hc (by decide)) (fun _ => ?_)
  refine aw_aload_n (npc := 9) rfl dX8_thinks_8 rfl ?_
  refine aw_get (npc := 12) dX8_thinks_9 rfl kf_X8_26 (am_ne (by decide) g69) rfl ?_
  refine aw_iload_n (npc := 13) rfl dX8_thinks_12 rfl ?_
  refine aw_aload_n (npc := 14) rfl dX8_thinks_13 rfl ?_
  refine aw_get (npc := 17) dX8_thinks_14 rfl kf_X8_9 (am_ne (by decide) g69) rfl ?_
  refine aw_iload_n (npc := 18) rfl dX8_thinks_17 rfl ?_
  refine aw_iald (npc := 19) (x := 0) (j := 47) dX8_thinks_18 rfl (am_ne (by decide) g70) ⟨by decide, by decide⟩ rfl ?_
  refine aw_iast (npc := 20) (j := 47) dX8_thinks_19 rfl am_eq ⟨by decide, by decide⟩ (Nat.le_of_ble_eq_true rfl) am_uu ?_
  refine aw_iinc (npc := 23) (v := 48) (L' := [some (.ref 69), some (.int 48)]) dX8_thinks_20 rfl rfl (by decide) (by decide) rfl rfl ?_
  refine aw_goto (npc := 2) dX8_thinks_23 (by decide) ?_
  refine aw_iload_n (npc := 3) rfl dX8_thinks_2 rfl ?_
  refine aw_bipush (npc := 5) (v := 62) (by decide) dX8_thinks_3 rfl ?_
  refine aw_icmp_ge (npc := 8) (tgt := 26) dX8_thinks_5 rfl (by decide) (fun hc => absurd hc (by decide)) (fun _ => ?_)
  refine aw_aload_n (npc := 9) rfl dX8_thinks_8 rfl ?_
  refine aw_get (npc := 12) dX8_thinks_9 rfl kf_X8_26 (am_ne (by decide) g69) rfl ?_
  refine aw_iload_n (npc := 13) rfl dX8_thinks_12 rfl ?_
  refine aw_aload_n (npc := 14) rfl dX8_thinks_13 rfl ?_
  refine aw_get (npc := 17) dX8_thinks_14 rfl kf_X8_9 (am_ne (by decide) g69) rfl ?_
  refine aw_iload_n (npc := 18) rfl dX8_thinks_17 rfl ?_
  refine aw_iald (npc := 19) (x := 0) (j := 48) dX8_thinks_18 rfl (am_ne (by decide) g70) ⟨by decide, by decide⟩ rfl ?_
  refine aw_iast (npc := 20) (j := 48) dX8_thinks_19 rfl am_eq ⟨by decide, by decide⟩ (Nat.le_of_ble_eq_true rfl) am_uu ?_
  refine aw_iinc (npc := 23) (v := 49) (L' := [some (.ref 69), some (.int 49)]) dX8_thinks_20 rfl rfl (by decide) (by decide) rfl rfl ?_
  refine aw_goto (npc := 2) dX8_thinks_23 (by decide) ?_
  refine aw_iload_n (npc := 3) rfl dX8_thinks_2 rfl ?_
  refine aw_bipush (npc := 5) (v := 62) (by decide) dX8_thinks_3 rfl ?_
  refine aw_icmp_ge (npc := 8) (tgt := 26) dX8_thinks_5 rfl (by decide) (fun hc => absurd hc (by decide)) (fun _ => ?_)
  refine aw_aload_n (npc := 9) rfl dX8_thinks_8 rfl ?_
  refine aw_get (npc := 12) dX8_thinks_9 rfl kf_X8_26 (am_ne (by decide) g69) rfl ?_
  refine aw_iload_n (npc := 13) rfl dX8_thinks_12 rfl ?_
  refine aw_aload_n (npc := 14) rfl dX8_thinks_13 rfl ?_
  refine aw_get (npc := 17) dX8_thinks_14 rfl kf_X8_9 (am_ne (by decide) g69) rfl ?_
  refine aw_iload_n (npc := 18) rfl dX8_thinks_17 rfl ?_
  refine aw_iald (npc := 19) (x := 0) (j := 49) dX8_thinks_18 rfl (am_ne (by decide) g70) ⟨by decide, by decide⟩ rfl ?_
  refine aw_iast (npc := 20) (j := 49) dX8_thinks_19 rfl am_eq ⟨by decide, by decide⟩ (Nat.le_of_ble_eq_true rfl) am_uu ?_
  refine aw_iinc (npc := 23) (v := 50) (L' := [some (.ref 69), some (.int 50)]) dX8_thinks_20 rfl rfl (by decide) (by decide) rfl rfl ?_
  refine aw_goto (npc := 2) dX8_thinks_23 (by decide) ?_
  refine aw_iload_n (npc := 3) rfl dX8_thinks_2 rfl ?_
  refine aw_bipush (npc := 5) (v := 62) (by decide) dX8_thinks_3 rfl ?_
  refine aw_icmp_ge (npc := 8) (tgt := 26) dX8_thinks_5 rfl (by decide) (fun hc => absurd hc (by decide)) (fun _ => ?_)
  refine aw_aload_n (npc := 9) rfl dX8_thinks_8 rfl ?_
  refine aw_get (npc := 12) dX8_thinks_9 rfl kf_X8_26 (am_ne (by decide) g69) rfl ?_
  refine aw_iload_n (npc := 13) rfl dX8_thinks_12 rfl ?_
  refine aw_aload_n (npc := 14) rfl dX8_thinks_13 rfl ?_
  refine aw_get (npc := 17) dX8_thinks_14 rfl kf_X8_9 (am_ne (by decide) g69) rfl ?_
  refine aw_iload_n (npc := 18) rfl dX8_thinks_17 rfl ?_
  refine aw_iald (npc := 19) (x := 0) (j := 50) dX8_thinks_18 rfl (am_ne (by decide) g70) ⟨by decide, by decide⟩ rfl ?_
  refine aw_iast (npc := 20) (j := 50) dX8_thinks_19 rfl am_eq ⟨by decide, by decide⟩ (Nat.le_of_ble_eq_true rfl) am_uu ?_
  refine aw_iinc (npc := 23) (v := 51) (L' := [some (.ref 69), some (.int 51)]) dX8_thinks_20 rfl rfl (by decide) (by decide) rfl rfl ?_
  refine aw_goto (npc := 2) dX8_thinks_23 (by decide) ?_
  refine aw_iload_n (npc := 3) rfl dX8_thinks_2 rfl ?_
  refine aw_bipush (npc := 5) (v := 62) (by decide) dX8_thinks_3 rfl ?_
  refine aw_icmp_ge (npc := 8) (tgt := 26) dX8_thinks_5 rfl (by decide) (fun hc => absurd hc (by decide)) (fun _ => ?_)
  refine aw_aload_n (npc := 9) rfl dX8_thinks_8 rfl ?_
  refine aw_get (npc := 12) dX8_thinks_9 rfl kf_X8_26 (am_ne (by decide) g69) rfl ?_
  refine aw_iload_n (npc := 13) rfl dX8_thinks_12 rfl ?_
  refine aw_aload_n (npc := 14) rfl dX8_thinks_13 rfl ?_
  refine aw_get (npc := 17) dX8_thinks_14 rfl kf_X8_9 (am_ne (by decide) g69) rfl ?_
  refine aw_iload_n (npc := 18) rfl dX8_thinks_17 rfl ?_
  refine aw_iald (npc := 19) (x := 0) (j := 51) dX8_thinks_18 rfl (am_ne (by decide) g70) ⟨by decide, by decide⟩ rfl ?_
  refine aw_iast (npc := 20) (j := 51) dX8_thinks_19 rfl am_eq ⟨by decide, by decide⟩ (Nat.le_of_ble_eq_true rfl) am_uu ?_
  refine aw_iinc (npc := 23) (v := 52) (L' := [some (.ref 69), some (.int 52)]) dX8_thinks_20 rfl rfl (by decide) (by decide) rfl rfl ?_
  refine aw_goto (npc := 2) dX8_thinks_23 (by decide) ?_
  refine aw_iload_n (npc := 3) rfl dX8_thinks_2 rfl ?_
  refine aw_bipush (npc := 5) (v := 62) (by decide) dX8_thinks_3 rfl ?_
  refine aw_icmp_ge (npc := 8) (tgt := 26) dX8_thinks_5 rfl (by decide) (fun hc => absurd hc (by decide)) (fun _ => ?_)
  refine aw_aload_n (npc := 9) rfl dX8_thinks_8 rfl ?_
  refine aw_get (npc := 12) dX8_thinks_9 rfl kf_X8_26 (am_ne (by decide) g69) rfl ?_
  refine aw_iload_n (npc := 13) rfl dX8_thinks_12 rfl ?_
  refine aw_aload_n (npc := 14) rfl dX8_thinks_13 rfl ?_
  refine aw_get (npc := 17) dX8_thinks_14 rfl kf_X8_9 (am_ne (by decide) g69) rfl ?_
  refine aw_iload_n (npc := 18) rfl dX8_thinks_17 rfl ?_
  refine aw_iald (npc := 19) (x := 0) (j := 52) dX8_thinks_18 rfl (am_ne (by decide) g70) ⟨by decide, by decide⟩ rfl ?_
  refine aw_iast (npc := 20) (j := 52) dX8_thinks_19 rfl am_eq ⟨by decide, by decide⟩ (Nat.le_of_ble_eq_true rfl) am_uu ?_
  refine aw_iinc (npc := 23) (v := 53) (L' := [some (.ref 69), some (.int 53)]) dX8_thinks_20 rfl rfl (by decide) (by decide) rfl rfl ?_
  refine aw_goto (npc := 2) dX8_thinks_23 (by decide) ?_
  refine aw_iload_n (npc := 3) rfl dX8_thinks_2 rfl ?_
  refine aw_bipush (npc := 5) (v := 62) (by decide) dX8_thinks_3 rfl ?_
  refine aw_icmp_ge (npc := 8) (tgt := 26) dX8_thinks_5 rfl (by decide) (fun hc => absurd hc (by decide)) (fun _ => ?_)
  refine aw_aload_n (npc := 9) rfl dX8_thinks_8 rfl ?_
  refine aw_get (npc := 12) dX8_thinks_9 rfl kf_X8_26 (am_ne (by decide) g69) rfl ?_
  refine aw_iload_n (npc := 13) rfl dX8_thinks_12 rfl ?_
  refine aw_aload_n (npc := 14) rfl dX8_thinks_13 rfl ?_
  refine aw_get (npc := 17) dX8_thinks_14 rfl kf_X8_9 (am_ne (by decide) g69) rfl ?_
  refine aw_iload_n (npc := 18) rfl dX8_thinks_17 rfl ?_
  refine aw_iald (npc := 19) (x := 0) (j := 53) dX8_thinks_18 rfl (am_ne (by decide) g70) ⟨by decide, by decide⟩ rfl ?_
  refine aw_iast (npc := 20) (j := 53) dX8_thinks_19 rfl am_eq ⟨by decide, by decide⟩ (Nat.le_of_ble_eq_true rfl) am_uu ?_
  refine aw_iinc (npc := 23) (v := 54) (L' := [some (.ref 69), some (.int 54)]) dX8_thinks_20 rfl rfl (by decide) (by decide) rfl rfl ?_
  refine aw_goto (npc := 2) dX8_thinks_23 (by decide) ?_
  refine aw_iload_n (npc := 3) rfl dX8_thinks_2 rfl ?_
  refine aw_bipush (npc := 5) (v := 62) (by decide) dX8_thinks_3 rfl ?_
  refine aw_icmp_ge (npc := 8) (tgt := 26) dX8_thinks_5 rfl (by decide) (fun hc => absurd hc (by decide)) (fun _ => ?_)
  refine aw_aload_n (npc := 9) rfl dX8_thinks_8 rfl ?_
  refine aw_get (npc := 12) dX8_thinks_9 rfl kf_X8_26 (am_ne (by decide) g69) rfl ?_
  refine aw_iload_n (npc := 13) rfl dX8_thinks_12 rfl ?_
  refine aw_aload_n (npc := 14) rfl dX8_thinks_13 rfl ?_
  refine aw_get (npc := 17) dX8_thinks_14 rfl kf_X8_9 (am_ne (by decide) g69) rfl ?_
  refine aw_iload_n (npc := 18) rfl dX8_thinks_17 rfl ?_
  refine aw_iald (npc := 19) (x := 0) (j := 54) dX8_thinks_18 rfl (am_ne (by decide) g70) ⟨by decide, by decide⟩ rfl ?_
  refine aw_iast (npc := 20) (j := 54) dX8_thinks_19 rfl am_eq ⟨by decide, by decide⟩ (Nat.le_of_ble_eq_true rfl) am_uu ?_
  refine aw_iinc (npc := 23) (v := 55) (L' := [some (.ref 69), some (.int 55)]) dX8_thinks_20 rfl rfl (by decide) (by decide) rfl rfl ?_
  refine aw_goto (npc := 2) dX8_thinks_23 (by decide) ?_
  refine aw_iload_n (npc := 3) rfl dX8_thinks_2 rfl ?_
  refine aw_bipush (npc := 5) (v := 62) (by decide) dX8_thinks_3 rfl ?_
  refine aw_icmp_ge (npc := 8) (tgt := 26) dX8_thinks_5 rfl (by decide) (fun hc => absurd hc (by decide)) (fun _ => ?_)
  refine aw_aload_n (npc := 9) rfl dX8_thinks_8 rfl ?_
  refine aw_get (npc := 12) dX8_thinks_9 rfl kf_X8_26 (am_ne (by decide) g69) rfl ?_
  refine aw_iload_n (npc := 13) rfl dX8_thinks_12 rfl ?_
  refine aw_aload_n (npc := 14) rfl dX8_thinks_13 rfl ?_
  refine aw_get (npc := 17) dX8_thinks_14 rfl kf_X8_9 (am_ne (by decide) g69) rfl ?_
  refine aw_iload_n (npc := 18) rfl dX8_thinks_17 rfl ?_
  refine aw_iald (npc := 19) (x := 0) (j := 55) dX8_thinks_18 rfl (am_ne (by decide) g70) ⟨by decide, by decide⟩ rfl ?_
  refine aw_iast (npc := 20) (j := 55) dX8_thinks_19 rfl am_eq ⟨by decide, by decide⟩ (Nat.le_of_ble_eq_true rfl) am_uu ?_
  refine aw_iinc (npc := 23) (v := 56) (L' := [some (.ref 69), some (.int 56)]) dX8_thinks_20 rfl rfl (by decide) (by decide) rfl rfl ?_
  refine aw_goto (npc := 2) dX8_thinks_23 (by decide) ?_
  refine aw_iload_n (npc := 3) rfl dX8_thinks_2 rfl ?_
  refine aw_bipush (npc := 5) (v := 62) (by decide) dX8_thinks_3 rfl ?_
  refine aw_icmp_ge (npc := 8) (tgt := 26) dX8_thinks_5 rfl (by decide) (fun hc => absurd hc (by decide)) (fun _ => ?_)
  refine aw_aload_n (npc := 9) rfl dX8_thinks_8 rfl ?_
  refine aw_get (npc := 12) dX8_thinks_9 rfl kf_X8_26 (am_ne (by decide) g69) rfl ?_
  refine aw_iload_n (npc := 13) rfl dX8_thinks_12 rfl ?_
  refine aw_aload_n (npc := 14) rfl dX8_thinks_13 rfl ?_
  refine aw_get (npc := 17) dX8_thinks_14 rfl kf_X8_9 (am_ne (by decide) g69) rfl ?_
  refine aw_iload_n (npc := 18) rfl dX8_thinks_17 rfl ?_
  refine aw_iald (npc := 19) (x := 0) (j := 56) dX8_thinks_18 rfl (am_ne (by decide) g70) ⟨by decide, by decide⟩ rfl ?_
  refine aw_iast (npc := 20) (j := 56) dX8_thinks_19 rfl am_eq ⟨by decide, by decide⟩ (Nat.le_of_ble_eq_true rfl) am_uu ?_
  refine aw_iinc (npc := 23) (v := 57) (L' := [some (.ref 69), some (.int 57)]) dX8_thinks_20 rfl rfl (by decide) (by decide) rfl rfl ?_
  refine aw_goto (npc := 2) dX8_thinks_23 (by decide) ?_
  refine aw_iload_n (npc := 3) rfl dX8_thinks_2 rfl ?_
  refine aw_bipush (npc := 5) (v := 62) (by decide) dX8_thinks_3 rfl ?_
  refine aw_icmp_ge (npc := 8) (tgt := 26) dX8_thinks_5 rfl (by decide) (fun hc => absurd hc (by decide)) (fun _ => ?_)
  refine aw_aload_n (npc := 9) rfl dX8_thinks_8 rfl ?_
  refine aw_get (npc := 12) dX8_thinks_9 rfl kf_X8_26 (am_ne (by decide) g69) rfl ?_
  refine aw_iload_n (npc := 13) rfl dX8_thinks_12 rfl ?_
  refine aw_aload_n (npc := 14) rfl dX8_thinks_13 rfl ?_
  refine aw_get (npc := 17) dX8_thinks_14 rfl kf_X8_9 (am_ne (by decide) g69) rfl ?_
  refine aw_iload_n (npc := 18) rfl dX8_thinks_17 rfl ?_
  refine aw_iald (npc := 19) (x := 0) (j := 57) dX8_thinks_18 rfl (am_ne (by decide) g70) ⟨by decide, by decide⟩ rfl ?_
  refine aw_iast (npc := 20) (j := 57) dX8_thinks_19 rfl am_eq ⟨by decide, by decide⟩ (Nat.le_of_ble_eq_true rfl) am_uu ?_
  refine aw_iinc (npc := 23) (v := 58) (L' := [some (.ref 69), some (.int 58)]) dX8_thinks_20 rfl rfl (by decide) (by decide) rfl rfl ?_
  refine aw_goto (npc := 2) dX8_thinks_23 (by decide) ?_
  refine aw_iload_n (npc := 3) rfl dX8_thinks_2 rfl ?_
  refine aw_bipush (npc := 5) (v := 62) (by decide) dX8_thinks_3 rfl ?_
  refine aw_icmp_ge (npc := 8) (tgt := 26) dX8_thinks_5 rfl (by decide) (fun hc => absurd hc (by decide)) (fun _ => ?_)
  refine aw_aload_n (npc := 9) rfl dX8_thinks_8 rfl ?_
  refine aw_get (npc := 12) dX8_thinks_9 rfl kf_X8_26 (am_ne (by decide) g69) rfl ?_
  refine aw_iload_n (npc := 13) rfl dX8_thinks_12 rfl ?_
  refine aw_aload_n (npc := 14) rfl dX8_thinks_13 rfl ?_
  refine aw_get (npc := 17) dX8_thinks_14 rfl kf_X8_9 (am_ne (by decide) g69) rfl ?_
  refine aw_iload_n (npc := 18) rfl dX8_thinks_17 rfl ?_
  refine aw_iald (npc := 19) (x := 0) (j := 58) dX8_thinks_18 rfl (am_ne (by decide) g70) ⟨by decide, by decide⟩ rfl ?_
  refine aw_iast (npc := 20) (j := 58) dX8_thinks_19 rfl am_eq ⟨by decide, by decide⟩ (Nat.le_of_ble_eq_true rfl) am_uu ?_
  refine aw_iinc (npc := 23) (v := 59) (L' := [some (.ref 69), some (.int 59)]) dX8_thinks_20 rfl rfl (by decide) (by decide) rfl rfl ?_
  refine aw_goto (npc := 2) dX8_thinks_23 (by decide) ?_
  refine aw_iload_n (npc := 3) rfl dX8_thinks_2 rfl ?_
  refine aw_bipush (npc := 5) (v := 62) (by decide) dX8_thinks_3 rfl ?_
  refine aw_icmp_ge (npc := 8) (tgt := 26) dX8_thinks_5 rfl (by decide) (fun hc => absurd hc (by decide)) (fun _ => ?_)
  refine aw_aload_n (npc := 9) rfl dX8_thinks_8 rfl ?_
  refine aw_get (npc := 12) dX8_thinks_9 rfl kf_X8_26 (am_ne (by decide) g69) rfl ?_
  refine aw_iload_n (npc := 13) rfl dX8_thinks_12 rfl ?_
  refine aw_aload_n (npc := 14) rfl dX8_thinks_13 rfl ?_
  refine aw_get (npc := 17) dX8_thinks_14 rfl kf_X8_9 (am_ne (by decide) g69) rfl ?_
  refine aw_iload_n (npc := 18) rfl dX8_thinks_17 rfl ?_
  refine aw_iald (npc := 19) (x := 0) (j := 59) dX8_thinks_18 rfl (am_ne (by decide) g70) ⟨by decide, by decide⟩ rfl ?_
  refine aw_iast (npc := 20) (j := 59) dX8_thinks_19 rfl am_eq ⟨by decide, by decide⟩ (Nat.le_of_ble_eq_true rfl) am_uu ?_
  refine aw_iinc (npc := 23) (v := 60) (L' := [some (.ref 69), some (.int 60)]) dX8_thinks_20 rfl rfl (by decide) (by decide) rfl rfl ?_
  refine aw_goto (npc := 2) dX8_thinks_23 (by decide) ?_
  refine aw_iload_n (npc := 3) rfl dX8_thinks_2 rfl ?_
  refine aw_bipush (npc := 5) (v := 62) (by decide) dX8_thinks_3 rfl ?_
  refine aw_icmp_ge (npc := 8) (tgt := 26) dX8_thinks_5 rfl (by decide) (fun hc => absurd hc (by decide)) (fun _ => ?_)
  refine aw_aload_n (npc := 9) rfl dX8_thinks_8 rfl ?_
  refine aw_get (npc := 12) dX8_thinks_9 rfl kf_X8_26 (am_ne (by decide) g69) rfl ?_
  refine aw_iload_n (npc := 13) rfl dX8_thinks_12 rfl ?_
  refine aw_aload_n (npc := 14) rfl dX8_thinks_13 rfl ?_
  refine aw_get (npc := 17) dX8_thinks_14 rfl kf_X8_9 (am_ne (by decide) g69) rfl ?_
  refine aw_iload_n (npc := 18) rfl dX8_thinks_17 rfl ?_
  refine aw_iald (npc := 19) (x := 0) (j := 60) dX8_thinks_18 rfl (am_ne (by decide) g70) ⟨by decide, by decide⟩ rfl ?_
  refine aw_iast (npc := 20) (j := 60) dX8_thinks_19 rfl am_eq ⟨by decide, by decide⟩ (Nat.le_of_ble_eq_true rfl) am_uu ?_
  refine aw_iinc (npc := 23) (v := 61) (L' := [some (.ref 69), some (.int 61)]) dX8_thinks_20 rfl rfl (by decide) (by decide) rfl rfl ?_
  refine aw_goto (npc := 2) dX8_thinks_23 (by decide) ?_
  refine aw_iload_n (npc := 3) rfl dX8_thinks_2 rfl ?_
  refine aw_bipush (npc := 5) (v := 62) (by decide) dX8_thinks_3 rfl ?_
  refine aw_icmp_ge (npc := 8) (tgt := 26) dX8_thinks_5 rfl (by decide) (fun hc => absurd hc (by decide)) (fun _ => ?_)
  refine aw_aload_n (npc := 9) rfl dX8_thinks_8 rfl ?_
  refine aw_get (npc := 12) dX8_thinks_9 rfl kf_X8_26 (am_ne (by decide) g69) rfl ?_
  refine aw_iload_n (npc := 13) rfl dX8_thinks_12 rfl ?_
  refine aw_aload_n (npc := 14) rfl dX8_thinks_13 rfl ?_
  refine aw_get (npc := 17) dX8_thinks_14 rfl kf_X8_9 (am_ne (by decide) g69) rfl ?_
  refine aw_iload_n (npc := 18) rfl dX8_thinks_17 rfl ?_
  refine aw_iald (npc := 19) (x := 0) (j := 61) dX8_thinks_18 rfl (am_ne (by decide) g70) ⟨by decide, by decide⟩ rfl ?_
  refine aw_iast (npc := 20) (j := 61) dX8_thinks_19 rfl am_eq ⟨by decide, by decide⟩ (Nat.le_of_ble_eq_true rfl) am_uu ?_
  refine aw_iinc (npc := 23) (v := 62) (L' := [some (.ref 69), some (.int 62)]) dX8_thinks_20 rfl rfl (by decide) (by decide) rfl rfl ?_
  refine aw_goto (npc := 2) dX8_thinks_23 (by decide) ?_
  refine aw_iload_n (npc := 3) rfl dX8_thinks_2 rfl ?_
  refine aw_bipush (npc := 5) (v := 62) (by decide) dX8_thinks_3 rfl ?_
  refine aw_icmp_ge (npc := 8) (tgt := 26) dX8_thinks_5 rfl (by decide) (fun _ => ?_) (fun hc => absurd (by decide) hc)
  refine aw_vret rfl dX8_thinks_26 ?_
  exact hq _ ⟨(am_ne (by decide) g69), (am_ne (by decide) g70), (am_ne (by decide) g73), (am_eq).trans (congrArg (fun l : List Int32 => (some (.inl (0, l)) : Option am_AC)) (by decide +kernel))⟩
set_option maxHeartbeats 40000000 in
set_option maxRecDepth 100000 in
theorem p_puts {X : List Int32} {d rc rs nn : Nat} {Q : am_Q} {si hot hv pt s0 s1 s2 s3 : Int32} {h : am_H} (F : fm si hot hv pt s0 s1 s2 s3 nb h) (hq : ∀ h9, fm (-1) hot 0 0 5 5 5 5 nb h9 → Q none nn h9) : AW X mX8_putsBack (d + 2) rc rs 0 [some (.ref 69), none] [] nn h Q := by
  obtain ⟨g69, g70, g73, g74⟩ := F
  refine aw_iconst (npc := 1) (v := 0) (by decide) dX8_putsBack_0 rfl ?_
  refine aw_istore_n (npc := 2) (L' := [some (.ref 69), some (.int 0)]) dX8_putsBack_1 rfl (by decide) rfl rfl ?_
  refine aw_iload_n (npc := 3) rfl dX8_putsBack_2 rfl ?_
  refine aw_bipush (npc := 5) (v := 62) (by decide) dX8_putsBack_3 rfl ?_
  refine aw_icmp_ge (npc := 8) (tgt := 26) dX8_putsBack_5 rfl (by decide) (fun hc => absurd hc (by decide)) (fun _ => ?_)
  refine aw_aload_n (npc := 9) rfl dX8_putsBack_8 rfl ?_
  refine aw_get (npc := 12) dX8_putsBack_9 rfl kf_X8_9 g69 rfl ?_
  refine aw_iload_n (npc := 13) rfl dX8_putsBack_12 rfl ?_
  refine aw_aload_n (npc := 14) rfl dX8_putsBack_13 rfl ?_
  refine aw_get (npc := 17) dX8_putsBack_14 rfl kf_X8_26 g69 rfl ?_
  refine aw_iload_n (npc := 18) rfl dX8_putsBack_17 rfl ?_
  refine aw_iald (npc := 19) (x := 1) (j := 0) dX8_putsBack_18 rfl g74 ⟨by decide, by decide⟩ rfl ?_
  refine aw_iast (npc := 20) (j := 0) dX8_putsBack_19 rfl g70 ⟨by decide, by decide⟩ (Nat.le_of_ble_eq_true rfl) (show _ = am_up _ 70 (.inl (0, nw hv pt s0 s1 s2 s3)) from rfl) ?_
  refine aw_iinc (npc := 23) (v := 1) (L' := [some (.ref 69), some (.int 1)]) dX8_putsBack_20 rfl rfl (by decide) (by decide) rfl rfl ?_
  refine aw_goto (npc := 2) dX8_putsBack_23 (by decide) ?_
  refine aw_iload_n (npc := 3) rfl dX8_putsBack_2 rfl ?_
  refine aw_bipush (npc := 5) (v := 62) (by decide) dX8_putsBack_3 rfl ?_
  refine aw_icmp_ge (npc := 8) (tgt := 26) dX8_putsBack_5 rfl (by decide) (fun hc => absurd hc (by decide)) (fun _ => ?_)
  refine aw_aload_n (npc := 9) rfl dX8_putsBack_8 rfl ?_
  refine aw_get (npc := 12) dX8_putsBack_9 rfl kf_X8_9 (am_ne (by decide) g69) rfl ?_
  refine aw_iload_n (npc := 13) rfl dX8_putsBack_12 rfl ?_
  refine aw_aload_n (npc := 14) rfl dX8_putsBack_13 rfl ?_
  refine aw_get (npc := 17) dX8_putsBack_14 rfl kf_X8_26 (am_ne (by decide) g69) rfl ?_
  refine aw_iload_n (npc := 18) rfl dX8_putsBack_17 rfl ?_
  refine aw_iald (npc := 19) (x := 0) (j := 1) dX8_putsBack_18 rfl (am_ne (by decide) g74) ⟨by decide, by decide⟩ rfl ?_
  refine aw_iast (npc := 20) (j := 1) dX8_putsBack_19 rfl am_eq ⟨by decide, by decide⟩ (Nat.le_of_ble_eq_true rfl) (show _ = am_up _ 70 (.inl (0, nw hv pt s0 s1 s2 s3)) from am_uu) ?_
  refine aw_iinc (npc := 23) (v := 2) (L' := [some (.ref 69), some (.int 2)]) dX8_putsBack_20 rfl rfl (by decide) (by decide) rfl rfl ?_
  refine aw_goto (npc := 2) dX8_putsBack_23 (by decide) ?_
  refine aw_iload_n (npc := 3) rfl dX8_putsBack_2 rfl ?_
  refine aw_bipush (npc := 5) (v := 62) (by decide) dX8_putsBack_3 rfl ?_
  refine aw_icmp_ge (npc := 8) (tgt := 26) dX8_putsBack_5 rfl (by decide) (fun hc => absurd hc (by decide)) (fun _ => ?_)
  refine aw_aload_n (npc := 9) rfl dX8_putsBack_8 rfl ?_
  refine aw_get (npc := 12) dX8_putsBack_9 rfl kf_X8_9 (am_ne (by decide) g69) rfl ?_
  refine aw_iload_n (npc := 13) rfl dX8_putsBack_12 rfl ?_
  refine aw_aload_n (npc := 14) rfl dX8_putsBack_13 rfl ?_
  refine aw_get (npc := 17) dX8_putsBack_14 rfl kf_X8_26 (am_ne (by decide) g69) rfl ?_
  refine aw_iload_n (npc := 18) rfl dX8_putsBack_17 rfl ?_
  refine aw_iald (npc := 19) (x := 0) (j := 2) dX8_putsBack_18 rfl (am_ne (by decide) g74) ⟨by decide, by decide⟩ rfl ?_
  refine aw_iast (npc := 20) (j := 2) dX8_putsBack_19 rfl am_eq ⟨by decide, by decide⟩ (Nat.le_of_ble_eq_true rfl) (show _ = am_up _ 70 (.inl (0, nw hv 0 s0 s1 s2 s3)) from am_uu) ?_
  refine aw_iinc (npc := 23) (v := 3) (L' := [some (.ref 69), some (.int 3)]) dX8_putsBack_20 rfl rfl (by decide) (by decide) rfl rfl ?_
  refine aw_goto (npc := 2) dX8_putsBack_23 (by decide) ?_
  refine aw_iload_n (npc := 3) rfl dX8_putsBack_2 rfl ?_
  refine aw_bipush (npc := 5) (v := 62) (by decide) dX8_putsBack_3 rfl ?_
  refine aw_icmp_ge (npc := 8) (tgt := 26) dX8_putsBack_5 rfl (by decide) (fun hc => absurd hc (by decide)) (fun _ => ?_)
  refine aw_aload_n (npc := 9) rfl dX8_putsBack_8 rfl ?_
  refine aw_get (npc := 12) dX8_putsBack_9 rfl kf_X8_9 (am_ne (by decide) g69) rfl ?_
  refine aw_iload_n (npc := 13) rfl dX8_putsBack_12 rfl ?_
  refine aw_aload_n (npc := 14) rfl dX8_putsBack_13 rfl ?_
  refine aw_get (npc := 17) dX8_putsBack_14 rfl kf_X8_26 (am_ne (by decide) g69) rfl ?_
  refine aw_iload_n (npc := 18) rfl dX8_putsBack_17 rfl ?_
  refine aw_iald (npc := 19) (x := 0) (j := 3) dX8_putsBack_18 rfl (am_ne (by decide) g74) ⟨by decide, by decide⟩ rfl ?_
  refine aw_iast (npc := 20) (j := 3) dX8_putsBack_19 rfl am_eq ⟨by decide, by decide⟩ (Nat.le_of_ble_eq_true rfl) (show _ = am_up _ 70 (.inl (0, nw 0 0 s0 s1 s2 s3)) from am_uu) ?_
  refine aw_iinc (npc := 23) (v := 4) (L' := [some (.ref 69), some (.int 4)]) dX8_putsBack_20 rfl rfl (by decide) (by decide) rfl rfl ?_
  refine aw_goto (npc := 2) dX8_putsBack_23 (by decide) ?_
  refine aw_iload_n (npc := 3) rfl dX8_putsBack_2 rfl ?_
  refine aw_bipush (npc := 5) (v := 62) (by decide) dX8_putsBack_3 rfl ?_
  refine aw_icmp_ge (npc := 8) (tgt := 26) dX8_putsBack_5 rfl (by decide) (fun hc => absurd hc (by decide)) (fun _ => ?_)
  refine aw_aload_n (npc := 9) rfl dX8_putsBack_8 rfl ?_
  refine aw_get (npc := 12) dX8_putsBack_9 rfl kf_X8_9 (am_ne (by decide) g69) rfl ?_
  refine aw_iload_n (npc := 13) rfl dX8_putsBack_12 rfl ?_
  refine aw_aload_n (npc := 14) rfl dX8_putsBack_13 rfl ?_
  refine aw_get (npc := 17) dX8_putsBack_14 rfl kf_X8_26 (am_ne (by decide) g69) rfl ?_
  refine aw_iload_n (npc := 18) rfl dX8_putsBack_17 rfl ?_
  refine aw_iald (npc := 19) (x := 60) (j := 4) dX8_putsBack_18 rfl (am_ne (by decide) g74) ⟨by decide, by decide⟩ rfl ?_
  refine aw_iast (npc := 20) (j := 4) dX8_putsBack_19 rfl am_eq ⟨by decide, by decide⟩ (Nat.le_of_ble_eq_true rfl) (show _ = am_up _ 70 (.inl (0, nw 0 0 s0 s1 s2 s3)) from am_uu) ?_
  refine aw_iinc (npc := 23) (v := 5) (L' := [some (.ref 69), some (.int 5)]) dX8_putsBack_20 rfl rfl (by decide) (by decide) rfl rfl ?_
  refine aw_goto (npc := 2) dX8_putsBack_23 (by decide) ?_
  refine aw_iload_n (npc := 3) rfl dX8_putsBack_2 rfl ?_
  refine aw_bipush (npc := 5) (v := 62) (by decide) dX8_putsBack_3 rfl ?_
  refine aw_icmp_ge (npc := 8) (tgt := 26) dX8_putsBack_5 rfl (by decide) (fun hc => absurd hc (by decide)) (fun _ => ?_)
  refine aw_aload_n (npc := 9) rfl dX8_putsBack_8 rfl ?_
  refine aw_get (npc := 12) dX8_putsBack_9 rfl kf_X8_9 (am_ne (by decide) g69) rfl ?_
  refine aw_iload_n (npc := 13) rfl dX8_putsBack_12 rfl ?_
  refine aw_aload_n (npc := 14) rfl dX8_putsBack_13 rfl ?_
  refine aw_get (npc := 17) dX8_putsBack_14 rfl kf_X8_26 (am_ne (by decide) g69) rfl ?_
  refine aw_iload_n (npc := 18) rfl dX8_putsBack_17 rfl ?_
  refine aw_iald (npc := 19) (x := 10) (j := 5) dX8_putsBack_18 rfl (am_ne (by decide) g74) ⟨by decide, by decide⟩ rfl ?_
  refine aw_iast (npc := 20) (j := 5) dX8_putsBack_19 rfl am_eq ⟨by decide, by decide⟩ (Nat.le_of_ble_eq_true rfl) (show _ = am_up _ 70 (.inl (0, nw 0 0 s0 s1 s2 s3)) from am_uu) ?_
  refine aw_iinc (npc := 23) (v := 6) (L' := [some (.ref 69), some (.int 6)]) dX8_putsBack_20 rfl rfl (by decide) (by decide) rfl rfl ?_
  refine aw_goto (npc := 2) dX8_putsBack_23 (by decide) ?_
  refine aw_iload_n (npc := 3) rfl dX8_putsBack_2 rfl ?_
  refine aw_bipush (npc := 5) (v := 62) (by decide) dX8_putsBack_3 rfl ?_
  refine aw_icmp_ge (npc := 8) (tgt := 26) dX8_putsBack_5 rfl (by decide) (fun hc => absurd hc (by decide)) (fun _ => ?_)
  refine aw_aload_n (npc := 9) rfl dX8_putsBack_8 rfl ?_
  refine aw_get (npc := 12) dX8_putsBack_9 rfl kf_X8_9 (am_ne (by decide) g69) rfl ?_
  refine aw_iload_n (npc := 13) rfl dX8_putsBack_12 rfl ?_
  refine aw_aload_n (npc := 14) rfl dX8_putsBack_13 rfl ?_
  refine aw_get (npc := 17) dX8_putsBack_14 rfl kf_X8_26 (am_ne (by decide) g69) rfl ?_
  refine aw_iload_n (npc := 18) rfl dX8_putsBack_17 rfl ?_
  refine aw_iald (npc := 19) (x := 0) (j := 6) dX8_putsBack_18 rfl (am_ne (by decide) g74) ⟨by decide, by decide⟩ rfl ?_
  refine aw_iast (npc := 20) (j := 6) dX8_putsBack_19 rfl am_eq ⟨by decide, by decide⟩ (Nat.le_of_ble_eq_true rfl) (show _ = am_up _ 70 (.inl (0, nw 0 0 s0 s1 s2 s3)) from am_uu) ?_
  refine aw_iinc (npc := 23) (v := 7) (L' := [some (.ref 69), some (.int 7)]) dX8_putsBack_20 rfl rfl (by decide) (by decide) rfl rfl ?_
  refine aw_goto (npc := 2) dX8_putsBack_23 (by decide) ?_
  refine aw_iload_n (npc := 3) rfl dX8_putsBack_2 rfl ?_
  refine aw_bipush (npc := 5) (v := 62) (by decide) dX8_putsBack_3 rfl ?_
  refine aw_icmp_ge (npc := 8) (tgt := 26) dX8_putsBack_5 rfl (by decide) (fun hc => absurd hc (by decide)) (fun _ => ?_)
  refine aw_aload_n (npc := 9) rfl dX8_putsBack_8 rfl ?_
  refine aw_get (npc := 12) dX8_putsBack_9 rfl kf_X8_9 (am_ne (by decide) g69) rfl ?_
  refine aw_iload_n (npc := 13) rfl dX8_putsBack_12 rfl ?_
  refine aw_aload_n (npc := 14) rfl dX8_putsBack_13 rfl ?_
  refine aw_get (npc := 17) dX8_putsBack_14 rfl kf_X8_26 (am_ne (by decide) g69) rfl ?_
  refine aw_iload_n (npc := 18) rfl dX8_putsBack_17 rfl ?_
  refine aw_iald (npc := 19) (x := 0) (j := 7) dX8_putsBack_18 rfl (am_ne (by decide) g74) ⟨by decide, by decide⟩ rfl ?_
  refine aw_iast (npc := 20) (j := 7) dX8_putsBack_19 rfl am_eq ⟨by decide, by decide⟩ (Nat.le_of_ble_eq_true rfl) (show _ = am_up _ 70 (.inl (0, nw 0 0 s0 s1 s2 s3)) from am_uu) ?_
  refine aw_iinc (npc := 23) (v := 8) (L' := [some (.ref 69), some (.int 8)]) dX8_putsBack_20 rfl rfl (by decide) (by decide) rfl rfl ?_
  refine aw_goto (npc := 2) dX8_putsBack_23 (by decide) ?_
  refine aw_iload_n (npc := 3) rfl dX8_putsBack_2 rfl ?_
  refine aw_bipush (npc := 5) (v := 62) (by decide) dX8_putsBack_3 rfl ?_
  refine aw_icmp_ge (npc := 8) (tgt := 26) dX8_putsBack_5 rfl (by decide) (fun hc => absurd hc (by decide)) (fun _ => ?_)
  refine aw_aload_n (npc := 9) rfl dX8_putsBack_8 rfl ?_
  refine aw_get (npc := 12) dX8_putsBack_9 rfl kf_X8_9 (am_ne (by decide) g69) rfl ?_
  refine aw_iload_n (npc := 13) rfl dX8_putsBack_12 rfl ?_
  refine aw_aload_n (npc := 14) rfl dX8_putsBack_13 rfl ?_
  refine aw_get (npc := 17) dX8_putsBack_14 rfl kf_X8_26 (am_ne (by decide) g69) rfl ?_
  refine aw_iload_n (npc := 18) rfl dX8_putsBack_17 rfl ?_
  refine aw_iald (npc := 19) (x := 5) (j := 8) dX8_putsBack_18 rfl (am_ne (by decide) g74) ⟨by decide, by decide⟩ rfl ?_
  refine aw_iast (npc := 20) (j := 8) dX8_putsBack_19 rfl am_eq ⟨by decide, by decide⟩ (Nat.le_of_ble_eq_true rfl) (show _ = am_up _ 70 (.inl (0, nw 0 0 5 s1 s2 s3)) from am_uu) ?_
  refine aw_iinc (npc := 23) (v := 9) (L' := [some (.ref 69), some (.int 9)]) dX8_putsBack_20 rfl rfl (by decide) (by decide) rfl rfl ?_
  refine aw_goto (npc := 2) dX8_putsBack_23 (by decide) ?_
  refine aw_iload_n (npc := 3) rfl dX8_putsBack_2 rfl ?_
  refine aw_bipush (npc := 5) (v := 62) (by decide) dX8_putsBack_3 rfl ?_
  refine aw_icmp_ge (npc := 8) (tgt := 26) dX8_putsBack_5 rfl (by decide) (fun hc => absurd hc (by decide)) (fun _ => ?_)
  refine aw_aload_n (npc := 9) rfl dX8_putsBack_8 rfl ?_
  refine aw_get (npc := 12) dX8_putsBack_9 rfl kf_X8_9 (am_ne (by decide) g69) rfl ?_
  refine aw_iload_n (npc := 13) rfl dX8_putsBack_12 rfl ?_
  refine aw_aload_n (npc := 14) rfl dX8_putsBack_13 rfl ?_
  refine aw_get (npc := 17) dX8_putsBack_14 rfl kf_X8_26 (am_ne (by decide) g69) rfl ?_
  refine aw_iload_n (npc := 18) rfl dX8_putsBack_17 rfl ?_
  refine aw_iald (npc := 19) (x := 5) (j := 9) dX8_putsBack_18 rfl (am_ne (by decide) g74) ⟨by decide, by decide⟩ rfl ?_
  refine aw_iast (npc := 20) (j := 9) dX8_putsBack_19 rfl am_eq ⟨by decide, by decide⟩ (Nat.le_of_ble_eq_true rfl) (show _ = am_up _ 70 (.inl (0, nw 0 0 5 5 s2 s3)) from am_uu) ?_
  refine aw_iinc (npc := 23) (v := 10) (L' := [some (.ref 69), some (.int 10)]) dX8_putsBack_20 rfl rfl (by decide) (by decide) rfl rfl ?_
  refine aw_goto (npc := 2) dX8_putsBack_23 (by decide) ?_
  refine aw_iload_n (npc := 3) rfl dX8_putsBack_2 rfl ?_
  refine aw_bipush (npc := 5) (v := 62) (by decide) dX8_putsBack_3 rfl ?_
  refine aw_icmp_ge (npc := 8) (tgt := 26) dX8_putsBack_5 rfl (by decide) (fun hc => absurd hc (by decide)) (fun _ => ?_)
  refine aw_aload_n (npc := 9) rfl dX8_putsBack_8 rfl ?_
  refine aw_get (npc := 12) dX8_putsBack_9 rfl kf_X8_9 (am_ne (by decide) g69) rfl ?_
  refine aw_iload_n (npc := 13) rfl dX8_putsBack_12 rfl ?_
  refine aw_aload_n (npc := 14) rfl dX8_putsBack_13 rfl ?_
  refine aw_get (npc := 17) dX8_putsBack_14 rfl kf_X8_26 (am_ne (by decide) g69) rfl ?_
  refine aw_iload_n (npc := 18) rfl dX8_putsBack_17 rfl ?_
  refine aw_iald (npc := 19) (x := 5) (j := 10) dX8_putsBack_18 rfl (am_ne (by decide) g74) ⟨by decide, by decide⟩ rfl ?_
  refine aw_iast (npc := 20) (j := 10) dX8_putsBack_19 rfl am_eq ⟨by decide, by decide⟩ (Nat.le_of_ble_eq_true rfl) (show _ = am_up _ 70 (.inl (0, nw 0 0 5 5 5 s3)) from am_uu) ?_
  refine aw_iinc (npc := 23) (v := 11) (L' := [some (.ref 69), some (.int 11)]) dX8_putsBack_20 rfl rfl (by decide) (by decide) rfl rfl ?_
  refine aw_goto (npc := 2) dX8_putsBack_23 (by decide) ?_
  refine aw_iload_n (npc := 3) rfl dX8_putsBack_2 rfl ?_
  refine aw_bipush (npc := 5) (v := 62) (by decide) dX8_putsBack_3 rfl ?_
  refine aw_icmp_ge (npc := 8) (tgt := 26) dX8_putsBack_5 rfl (by decide) (fun hc => absurd hc (by decide)) (fun _ => ?_)
  refine aw_aload_n (npc := 9) rfl dX8_putsBack_8 rfl ?_
  refine aw_get (npc := 12) dX8_putsBack_9 rfl kf_X8_9 (am_ne (by decide) g69) rfl ?_
  refine aw_iload_n (npc := 13) rfl dX8_putsBack_12 rfl ?_
  refine aw_aload_n (npc := 14) rfl dX8_putsBack_13 rfl ?_
  refine aw_get (npc := 17) dX8_putsBack_14 rfl kf_X8_26 (am_ne (by decide) g69) rfl ?_
  refine aw_iload_n (npc := 18) rfl dX8_putsBack_17 rfl ?_
  refine aw_iald (npc := 19) (x := 5) (j := 11) dX8_putsBack_18 rfl (am_ne (by decide) g74) ⟨by decide, by decide⟩ rfl ?_
  refine aw_iast (npc := 20) (j := 11) dX8_putsBack_19 rfl am_eq ⟨by decide, by decide⟩ (Nat.le_of_ble_eq_true rfl) (show _ = am_up _ 70 (.inl (0, nw 0 0 5 5 5 5)) from am_uu) ?_
  refine aw_iinc (npc := 23) (v := 12) (L' := [some (.ref 69), some (.int 12)]) dX8_putsBack_20 rfl rfl (by decide) (by decide) rfl rfl ?_
  refine aw_goto (npc := 2) dX8_putsBack_23 (by decide) ?_
  refine aw_iload_n (npc := 3) rfl dX8_putsBack_2 rfl ?_
  refine aw_bipush (npc := 5) (v := 62) (by decide) dX8_putsBack_3 rfl ?_
  refine aw_icmp_ge (npc := 8) (tgt := 26) dX8_putsBack_5 rfl (by decide) (fun hc => absurd hc (by decide)) (fun _ => ?_)
  refine aw_aload_n (npc := 9) rfl dX8_putsBack_8 rfl ?_
  refine aw_get (npc := 12) dX8_putsBack_9 rfl kf_X8_9 (am_ne (by decide) g69) rfl ?_
  refine aw_iload_n (npc := 13) rfl dX8_putsBack_12 rfl ?_
  refine aw_aload_n (npc := 14) rfl dX8_putsBack_13 rfl ?_
  refine aw_get (npc := 17) dX8_putsBack_14 rfl kf_X8_26 (am_ne (by decide) g69) rfl ?_
  refine aw_iload_n (npc := 18) rfl dX8_putsBack_17 rfl ?_
  refine aw_iald (npc := 19) (x := 1) (j := 12) dX8_putsBack_18 rfl (am_ne (by decide) g74) ⟨by decide, by decide⟩ rfl ?_
  refine aw_iast (npc := 20) (j := 12) dX8_putsBack_19 rfl am_eq ⟨by decide, by decide⟩ (Nat.le_of_ble_eq_true rfl) (show _ = am_up _ 70 (.inl (0, nw 0 0 5 5 5 5)) from am_uu) ?_
  refine aw_iinc (npc := 23) (v := 13) (L' := [some (.ref 69), some (.int 13)]) dX8_putsBack_20 rfl rfl (by decide) (by decide) rfl rfl ?_
  refine aw_goto (npc := 2) dX8_putsBack_23 (by decide) ?_
  refine aw_iload_n (npc := 3) rfl dX8_putsBack_2 rfl ?_
  refine aw_bipush (npc := 5) (v := 62) (by decide) dX8_putsBack_3 rfl ?_
  refine aw_icmp_ge (npc := 8) (tgt := 26) dX8_putsBack_5 rfl (by decide) (fun hc => absurd hc (by decide)) (fun _ => ?_)
  refine aw_aload_n (npc := 9) rfl dX8_putsBack_8 rfl ?_
  refine aw_get (npc := 12) dX8_putsBack_9 rfl kf_X8_9 (am_ne (by decide) g69) rfl ?_
  refine aw_iload_n (npc := 13) rfl dX8_putsBack_12 rfl ?_
  refine aw_aload_n (npc := 14) rfl dX8_putsBack_13 rfl ?_
  refine aw_get (npc := 17) dX8_putsBack_14 rfl kf_X8_26 (am_ne (by decide) g69) rfl ?_
  refine aw_iload_n (npc := 18) rfl dX8_putsBack_17 rfl ?_
  refine aw_iald (npc := 19) (x := 1) (j := 13) dX8_putsBack_18 rfl (am_ne (by decide) g74) ⟨by decide, by decide⟩ rfl ?_
  refine aw_iast (npc := 20) (j := 13) dX8_putsBack_19 rfl am_eq ⟨by decide, by decide⟩ (Nat.le_of_ble_eq_true rfl) (show _ = am_up _ 70 (.inl (0, nw 0 0 5 5 5 5)) from am_uu) ?_
  refine aw_iinc (npc := 23) (v := 14) (L' := [some (.ref 69), some (.int 14)]) dX8_putsBack_20 rfl rfl (by decide) (by decide) rfl rfl ?_
  refine aw_goto (npc := 2) dX8_putsBack_23 (by decide) ?_
  refine aw_iload_n (npc := 3) rfl dX8_putsBack_2 rfl ?_
  refine aw_bipush (npc := 5) (v := 62) (by decide) dX8_putsBack_3 rfl ?_
  refine aw_icmp_ge (npc := 8) (tgt := 26) dX8_putsBack_5 rfl (by decide) (fun hc => absurd hc (by decide)) (fun _ => ?_)
  refine aw_aload_n (npc := 9) rfl dX8_putsBack_8 rfl ?_
  refine aw_get (npc := 12) dX8_putsBack_9 rfl kf_X8_9 (am_ne (by decide) g69) rfl ?_
  refine aw_iload_n (npc := 13) rfl dX8_putsBack_12 rfl ?_
  refine aw_aload_n (npc := 14) rfl dX8_putsBack_13 rfl ?_
  refine aw_get (npc := 17) dX8_putsBack_14 rfl kf_X8_26 (am_ne (by decide) g69) rfl ?_
  refine aw_iload_n (npc := 18) rfl dX8_putsBack_17 rfl ?_
  refine aw_iald (npc := 19) (x := 1) (j := 14) dX8_putsBack_18 rfl (am_ne (by decide) g74) ⟨by decide, by decide⟩ rfl ?_
  refine aw_iast (npc := 20) (j := 14) dX8_putsBack_19 rfl am_eq ⟨by decide, by decide⟩ (Nat.le_of_ble_eq_true rfl) (show _ = am_up _ 70 (.inl (0, nw 0 0 5 5 5 5)) from am_uu) ?_
  refine aw_iinc (npc := 23) (v := 15) (L' := [some (.ref 69), some (.int 15)]) dX8_putsBack_20 rfl rfl (by decide) (by decide) rfl rfl ?_
  refine aw_goto (npc := 2) dX8_putsBack_23 (by decide) ?_
  refine aw_iload_n (npc := 3) rfl dX8_putsBack_2 rfl ?_
  refine aw_bipush (npc := 5) (v := 62) (by decide) dX8_putsBack_3 rfl ?_
  refine aw_icmp_ge (npc := 8) (tgt := 26) dX8_putsBack_5 rfl (by decide) (fun hc => absurd hc (by decide)) (fun _ => ?_)
  refine aw_aload_n (npc := 9) rfl dX8_putsBack_8 rfl ?_
  refine aw_get (npc := 12) dX8_putsBack_9 rfl kf_X8_9 (am_ne (by decide) g69) rfl ?_
  refine aw_iload_n (npc := 13) rfl dX8_putsBack_12 rfl ?_
  refine aw_aload_n (npc := 14) rfl dX8_putsBack_13 rfl ?_
  refine aw_get (npc := 17) dX8_putsBack_14 rfl kf_X8_26 (am_ne (by decide) g69) rfl ?_
  refine aw_iload_n (npc := 18) rfl dX8_putsBack_17 rfl ?_
  refine aw_iald (npc := 19) (x := 1) (j := 15) dX8_putsBack_18 rfl (am_ne (by decide) g74) ⟨by decide, by decide⟩ rfl ?_
  refine aw_iast (npc := 20) (j := 15) dX8_putsBack_19 rfl am_eq ⟨by decide, by decide⟩ (Nat.le_of_ble_eq_true rfl) (show _ = am_up _ 70 (.inl (0, nw 0 0 5 5 5 5)) from am_uu) ?_
  refine aw_iinc (npc := 23) (v := 16) (L' := [some (.ref 69), some (.int 16)]) dX8_putsBack_20 rfl rfl (by decide) (by decide) rfl rfl ?_
  refine aw_goto (npc := 2) dX8_putsBack_23 (by decide) ?_
  refine aw_iload_n (npc := 3) rfl dX8_putsBack_2 rfl ?_
  refine aw_bipush (npc := 5) (v := 62) (by decide) dX8_putsBack_3 rfl ?_
  refine aw_icmp_ge (npc := 8) (tgt := 26) dX8_putsBack_5 rfl (by decide) (fun hc => absurd hc (by decide)) (fun _ => ?_)
  refine aw_aload_n (npc := 9) rfl dX8_putsBack_8 rfl ?_
  refine aw_get (npc := 12) dX8_putsBack_9 rfl kf_X8_9 (am_ne (by decide) g69) rfl ?_
  refine aw_iload_n (npc := 13) rfl dX8_putsBack_12 rfl ?_
  refine aw_aload_n (npc := 14) rfl dX8_putsBack_13 rfl ?_
  refine aw_get (npc := 17) dX8_putsBack_14 rfl kf_X8_26 (am_ne (by decide) g69) rfl ?_
  refine aw_iload_n (npc := 18) rfl dX8_putsBack_17 rfl ?_
  refine aw_iald (npc := 19) (x := 1) (j := 16) dX8_putsBack_18 rfl (am_ne (by decide) g74) ⟨by decide, by decide⟩ rfl ?_
  refine aw_iast (npc := 20) (j := 16) dX8_putsBack_19 rfl am_eq ⟨by decide, by decide⟩ (Nat.le_of_ble_eq_true rfl) (show _ = am_up _ 70 (.inl (0, nw 0 0 5 5 5 5)) from am_uu) ?_
  refine aw_iinc (npc := 23) (v := 17) (L' := [some (.ref 69), some (.int 17)]) dX8_putsBack_20 rfl rfl (by decide) (by decide) rfl rfl ?_
  refine aw_goto (npc := 2) dX8_putsBack_23 (by decide) ?_
  refine aw_iload_n (npc := 3) rfl dX8_putsBack_2 rfl ?_
  refine aw_bipush (npc := 5) (v := 62) (by decide) dX8_putsBack_3 rfl ?_
  refine aw_icmp_ge (npc := 8) (tgt := 26) dX8_putsBack_5 rfl (by decide) (fun hc => absurd hc (by decide)) (fun _ => ?_)
  refine aw_aload_n (npc := 9) rfl dX8_putsBack_8 rfl ?_
  refine aw_get (npc := 12) dX8_putsBack_9 rfl kf_X8_9 (am_ne (by decide) g69) rfl ?_
  refine aw_iload_n (npc := 13) rfl dX8_putsBack_12 rfl ?_
  refine aw_aload_n (npc := 14) rfl dX8_putsBack_13 rfl ?_
  refine aw_get (npc := 17) dX8_putsBack_14 rfl kf_X8_26 (am_ne (by decide) g69) rfl ?_
  refine aw_iload_n (npc := 18) rfl dX8_putsBack_17 rfl ?_
  refine aw_iald (npc := 19) (x := 1) (j := 17) dX8_putsBack_18 rfl (am_ne (by decide) g74) ⟨by decide, by decide⟩ rfl ?_
  refine aw_iast (npc := 20) (j := 17) dX8_putsBack_19 rfl am_eq ⟨by decide, by decide⟩ (Nat.le_of_ble_eq_true rfl) (show _ = am_up _ 70 (.inl (0, nw 0 0 5 5 5 5)) from am_uu) ?_
  refine aw_iinc (npc := 23) (v := 18) (L' := [some (.ref 69), some (.int 18)]) dX8_putsBack_20 rfl rfl (by decide) (by decide) rfl rfl ?_
  refine aw_goto (npc := 2) dX8_putsBack_23 (by decide) ?_
  refine aw_iload_n (npc := 3) rfl dX8_putsBack_2 rfl ?_
  refine aw_bipush (npc := 5) (v := 62) (by decide) dX8_putsBack_3 rfl ?_
  refine aw_icmp_ge (npc := 8) (tgt := 26) dX8_putsBack_5 rfl (by decide) (fun hc => absurd hc (by decide)) (fun _ => ?_)
  refine aw_aload_n (npc := 9) rfl dX8_putsBack_8 rfl ?_
  refine aw_get (npc := 12) dX8_putsBack_9 rfl kf_X8_9 (am_ne (by decide) g69) rfl ?_
  refine aw_iload_n (npc := 13) rfl dX8_putsBack_12 rfl ?_
  refine aw_aload_n (npc := 14) rfl dX8_putsBack_13 rfl ?_
  refine aw_get (npc := 17) dX8_putsBack_14 rfl kf_X8_26 (am_ne (by decide) g69) rfl ?_
  refine aw_iload_n (npc := 18) rfl dX8_putsBack_17 rfl ?_
  refine aw_iald (npc := 19) (x := 1) (j := 18) dX8_putsBack_18 rfl (am_ne (by decide) g74) ⟨by decide, by decide⟩ rfl ?_
  refine aw_iast (npc := 20) (j := 18) dX8_putsBack_19 rfl am_eq ⟨by decide, by decide⟩ (Nat.le_of_ble_eq_true rfl) (show _ = am_up _ 70 (.inl (0, nw 0 0 5 5 5 5)) from am_uu) ?_
  refine aw_iinc (npc := 23) (v := 19) (L' := [some (.ref 69), some (.int 19)]) dX8_putsBack_20 rfl rfl (by decide) (by decide) rfl rfl ?_
  refine aw_goto (npc := 2) dX8_putsBack_23 (by decide) ?_
  refine aw_iload_n (npc := 3) rfl dX8_putsBack_2 rfl ?_
  refine aw_bipush (npc := 5) (v := 62) (by decide) dX8_putsBack_3 rfl ?_
  refine aw_icmp_ge (npc := 8) (tgt := 26) dX8_putsBack_5 rfl (by decide) (fun hc => absurd hc (by decide)) (fun _ => ?_)
  refine aw_aload_n (npc := 9) rfl dX8_putsBack_8 rfl ?_
  refine aw_get (npc := 12) dX8_putsBack_9 rfl kf_X8_9 (am_ne (by decide) g69) rfl ?_
  refine aw_iload_n (npc := 13) rfl dX8_putsBack_12 rfl ?_
  refine aw_aload_n (npc := 14) rfl dX8_putsBack_13 rfl ?_
  refine aw_get (npc := 17) dX8_putsBack_14 rfl kf_X8_26 (am_ne (by decide) g69) rfl ?_
  refine aw_iload_n (npc := 18) rfl dX8_putsBack_17 rfl ?_
  refine aw_iald (npc := 19) (x := 1) (j := 19) dX8_putsBack_18 rfl (am_ne (by decide) g74) ⟨by decide, by decide⟩ rfl ?_
  refine aw_iast (npc := 20) (j := 19) dX8_putsBack_19 rfl am_eq ⟨by decide, by decide⟩ (Nat.le_of_ble_eq_true rfl) (show _ = am_up _ 70 (.inl (0, nw 0 0 5 5 5 5)) from am_uu) ?_
  refine aw_iinc (npc := 23) (v := 20) (L' := [some (.ref 69), some (.int 20)]) dX8_putsBack_20 rfl rfl (by decide) (by decide) rfl rfl ?_
  refine aw_goto (npc := 2) dX8_putsBack_23 (by decide) ?_
  refine aw_iload_n (npc := 3) rfl dX8_putsBack_2 rfl ?_
  refine aw_bipush (npc := 5) (v := 62) (by decide) dX8_putsBack_3 rfl ?_
  refine aw_icmp_ge (npc := 8) (tgt := 26) dX8_putsBack_5 rfl (by decide) (fun hc => absurd hc (by decide)) (fun _ => ?_)
  refine aw_aload_n (npc := 9) rfl dX8_putsBack_8 rfl ?_
  refine aw_get (npc := 12) dX8_putsBack_9 rfl kf_X8_9 (am_ne (by decide) g69) rfl ?_
  refine aw_iload_n (npc := 13) rfl dX8_putsBack_12 rfl ?_
  refine aw_aload_n (npc := 14) rfl dX8_putsBack_13 rfl ?_
  refine aw_get (npc := 17) dX8_putsBack_14 rfl kf_X8_26 (am_ne (by decide) g69) rfl ?_
  refine aw_iload_n (npc := 18) rfl dX8_putsBack_17 rfl ?_
  refine aw_iald (npc := 19) (x := 20) (j := 20) dX8_putsBack_18 rfl (am_ne (by decide) g74) ⟨by decide, by decide⟩ rfl ?_
  refine aw_iast (npc := 20) (j := 20) dX8_putsBack_19 rfl am_eq ⟨by decide, by decide⟩ (Nat.le_of_ble_eq_true rfl) (show _ = am_up _ 70 (.inl (0, nw 0 0 5 5 5 5)) from am_uu) ?_
  refine aw_iinc (npc := 23) (v := 21) (L' := [some (.ref 69), some (.int 21)]) dX8_putsBack_20 rfl rfl (by decide) (by decide) rfl rfl ?_
  refine aw_goto (npc := 2) dX8_putsBack_23 (by decide) ?_
  refine aw_iload_n (npc := 3) rfl dX8_putsBack_2 rfl ?_
  refine aw_bipush (npc := 5) (v := 62) (by decide) dX8_putsBack_3 rfl ?_
  refine aw_icmp_ge (npc := 8) (tgt := 26) dX8_putsBack_5 rfl (by decide) (fun hc => absurd hc (by decide)) (fun _ => ?_)
  refine aw_aload_n (npc := 9) rfl dX8_putsBack_8 rfl ?_
  refine aw_get (npc := 12) dX8_putsBack_9 rfl kf_X8_9 (am_ne (by decide) g69) rfl ?_
  refine aw_iload_n (npc := 13) rfl dX8_putsBack_12 rfl ?_
  refine aw_aload_n (npc := 14) rfl dX8_putsBack_13 rfl ?_
  refine aw_get (npc := 17) dX8_putsBack_14 rfl kf_X8_26 (am_ne (by decide) g69) rfl ?_
  refine aw_iload_n (npc := 18) rfl dX8_putsBack_17 rfl ?_
  refine aw_iald (npc := 19) (x := 20) (j := 21) dX8_putsBack_18 rfl (am_ne (by decide) g74) ⟨by decide, by decide⟩ rfl ?_
  refine aw_iast (npc := 20) (j := 21) dX8_putsBack_19 rfl am_eq ⟨by decide, by decide⟩ (Nat.le_of_ble_eq_true rfl) (show _ = am_up _ 70 (.inl (0, nw 0 0 5 5 5 5)) from am_uu) ?_
  refine aw_iinc (npc := 23) (v := 22) (L' := [some (.ref 69), some (.int 22)]) dX8_putsBack_20 rfl rfl (by decide) (by decide) rfl rfl ?_
  refine aw_goto (npc := 2) dX8_putsBack_23 (by decide) ?_
  refine aw_iload_n (npc := 3) rfl dX8_putsBack_2 rfl ?_
  refine aw_bipush (npc := 5) (v := 62) (by decide) dX8_putsBack_3 rfl ?_
  refine aw_icmp_ge (npc := 8) (tgt := 26) dX8_putsBack_5 rfl (by decide) (fun hc => absurd hc (by decide)) (fun _ => ?_)
  refine aw_aload_n (npc := 9) rfl dX8_putsBack_8 rfl ?_
  refine aw_get (npc := 12) dX8_putsBack_9 rfl kf_X8_9 (am_ne (by decide) g69) rfl ?_
  refine aw_iload_n (npc := 13) rfl dX8_putsBack_12 rfl ?_
  refine aw_aload_n (npc := 14) rfl dX8_putsBack_13 rfl ?_
  refine aw_get (npc := 17) dX8_putsBack_14 rfl kf_X8_26 (am_ne (by decide) g69) rfl ?_
  refine aw_iload_n (npc := 18) rfl dX8_putsBack_17 rfl ?_
  refine aw_iald (npc := 19) (x := 0) (j := 22) dX8_putsBack_18 rfl (am_ne (by decide) g74) ⟨by decide, by decide⟩ rfl ?_
  refine aw_iast (npc := 20) (j := 22) dX8_putsBack_19 rfl am_eq ⟨by decide, by decide⟩ (Nat.le_of_ble_eq_true rfl) (show _ = am_up _ 70 (.inl (0, nw 0 0 5 5 5 5)) from am_uu) ?_
  refine aw_iinc (npc := 23) (v := 23) (L' := [some (.ref 69), some (.int 23)]) dX8_putsBack_20 rfl rfl (by decide) (by decide) rfl rfl ?_
  refine aw_goto (npc := 2) dX8_putsBack_23 (by decide) ?_
  refine aw_iload_n (npc := 3) rfl dX8_putsBack_2 rfl ?_
  refine aw_bipush (npc := 5) (v := 62) (by decide) dX8_putsBack_3 rfl ?_
  refine aw_icmp_ge (npc := 8) (tgt := 26) dX8_putsBack_5 rfl (by decide) (fun hc => absurd hc (by decide)) (fun _ => ?_)
  refine aw_aload_n (npc := 9) rfl dX8_putsBack_8 rfl ?_
  refine aw_get (npc := 12) dX8_putsBack_9 rfl kf_X8_9 (am_ne (by decide) g69) rfl ?_
  refine aw_iload_n (npc := 13) rfl dX8_putsBack_12 rfl ?_
  refine aw_aload_n (npc := 14) rfl dX8_putsBack_13 rfl ?_
  refine aw_get (npc := 17) dX8_putsBack_14 rfl kf_X8_26 (am_ne (by decide) g69) rfl ?_
  refine aw_iload_n (npc := 18) rfl dX8_putsBack_17 rfl ?_
  refine aw_iald (npc := 19) (x := 0) (j := 23) dX8_putsBack_18 rfl (am_ne (by decide) g74) ⟨by decide, by decide⟩ rfl ?_
  refine aw_iast (npc := 20) (j := 23) dX8_putsBack_19 rfl am_eq ⟨by decide, by decide⟩ (Nat.le_of_ble_eq_true rfl) (show _ = am_up _ 70 (.inl (0, nw 0 0 5 5 5 5)) from am_uu) ?_
  refine aw_iinc (npc := 23) (v := 24) (L' := [some (.ref 69), some (.int 24)]) dX8_putsBack_20 rfl rfl (by decide) (by decide) rfl rfl ?_
  refine aw_goto (npc := 2) dX8_putsBack_23 (by decide) ?_
  refine aw_iload_n (npc := 3) rfl dX8_putsBack_2 rfl ?_
  refine aw_bipush (npc := 5) (v := 62) (by decide) dX8_putsBack_3 rfl ?_
  refine aw_icmp_ge (npc := 8) (tgt := 26) dX8_putsBack_5 rfl (by decide) (fun hc => absurd hc (by decide)) (fun _ => ?_)
  refine aw_aload_n (npc := 9) rfl dX8_putsBack_8 rfl ?_
  refine aw_get (npc := 12) dX8_putsBack_9 rfl kf_X8_9 (am_ne (by decide) g69) rfl ?_
  refine aw_iload_n (npc := 13) rfl dX8_putsBack_12 rfl ?_
  refine aw_aload_n (npc := 14) rfl dX8_putsBack_13 rfl ?_
  refine aw_get (npc := 17) dX8_putsBack_14 rfl kf_X8_26 (am_ne (by decide) g69) rfl ?_
  refine aw_iload_n (npc := 18) rfl dX8_putsBack_17 rfl ?_
  refine aw_iald (npc := 19) (x := 0) (j := 24) dX8_putsBack_18 rfl (am_ne (by decide) g74) ⟨by decide, by decide⟩ rfl ?_
  refine aw_iast (npc := 20) (j := 24) dX8_putsBack_19 rfl am_eq ⟨by decide, by decide⟩ (Nat.le_of_ble_eq_true rfl) (show _ = am_up _ 70 (.inl (0, nw 0 0 5 5 5 5)) from am_uu) ?_
  refine aw_iinc (npc := 23) (v := 25) (L' := [some (.ref 69), some (.int 25)]) dX8_putsBack_20 rfl rfl (by decide) (by decide) rfl rfl ?_
  refine aw_goto (npc := 2) dX8_putsBack_23 (by decide) ?_
  refine aw_iload_n (npc := 3) rfl dX8_putsBack_2 rfl ?_
  refine aw_bipush (npc := 5) (v := 62) (by decide) dX8_putsBack_3 rfl ?_
  refine aw_icmp_ge (npc := 8) (tgt := 26) dX8_putsBack_5 rfl (by decide) (fun hc => absurd hc (by decide)) (fun _ => ?_)
  refine aw_aload_n (npc := 9) rfl dX8_putsBack_8 rfl ?_
  refine aw_get (npc := 12) dX8_putsBack_9 rfl kf_X8_9 (am_ne (by decide) g69) rfl ?_
  refine aw_iload_n (npc := 13) rfl dX8_putsBack_12 rfl ?_
  refine aw_aload_n (npc := 14) rfl dX8_putsBack_13 rfl ?_
  refine aw_get (npc := 17) dX8_putsBack_14 rfl kf_X8_26 (am_ne (by decide) g69) rfl ?_
  refine aw_iload_n (npc := 18) rfl dX8_putsBack_17 rfl ?_
  refine aw_iald (npc := 19) (x := 0) (j := 25) dX8_putsBack_18 rfl (am_ne (by decide) g74) ⟨by decide, by decide⟩ rfl ?_
  refine aw_iast (npc := 20) (j := 25) dX8_putsBack_19 rfl am_eq ⟨by decide, by decide⟩ (Nat.le_of_ble_eq_true rfl) (show _ = am_up _ 70 (.inl (0, nw 0 0 5 5 5 5)) from am_uu) ?_
  refine aw_iinc (npc := 23) (v := 26) (L' := [some (.ref 69), some (.int 26)]) dX8_putsBack_20 rfl rfl (by decide) (by decide) rfl rfl ?_
  refine aw_goto (npc := 2) dX8_putsBack_23 (by decide) ?_
  refine aw_iload_n (npc := 3) rfl dX8_putsBack_2 rfl ?_
  refine aw_bipush (npc := 5) (v := 62) (by decide) dX8_putsBack_3 rfl ?_
  refine aw_icmp_ge (npc := 8) (tgt := 26) dX8_putsBack_5 rfl (by decide) (fun hc => absurd hc (by decide)) (fun _ => ?_)
  refine aw_aload_n (npc := 9) rfl dX8_putsBack_8 rfl ?_
  refine aw_get (npc := 12) dX8_putsBack_9 rfl kf_X8_9 (am_ne (by decide) g69) rfl ?_
  refine aw_iload_n (npc := 13) rfl dX8_putsBack_12 rfl ?_
  refine aw_aload_n (npc := 14) rfl dX8_putsBack_13 rfl ?_
  refine aw_get (npc := 17) dX8_putsBack_14 rfl kf_X8_26 (am_ne (by decide) g69) rfl ?_
  refine aw_iload_n (npc := 18) rfl dX8_putsBack_17 rfl ?_
  refine aw_iald (npc := 19) (x := 0) (j := 26) dX8_putsBack_18 rfl (am_ne (by decide) g74) ⟨by decide, by decide⟩ rfl ?_
  refine aw_iast (npc := 20) (j := 26) dX8_putsBack_19 rfl am_eq ⟨by decide, by decide⟩ (Nat.le_of_ble_eq_true rfl) (show _ = am_up _ 70 (.inl (0, nw 0 0 5 5 5 5)) from am_uu) ?_
  refine aw_iinc (npc := 23) (v := 27) (L' := [some (.ref 69), some (.int 27)]) dX8_putsBack_20 rfl rfl (by decide) (by decide) rfl rfl ?_
  refine aw_goto (npc := 2) dX8_putsBack_23 (by decide) ?_
  refine aw_iload_n (npc := 3) rfl dX8_putsBack_2 rfl ?_
  refine aw_bipush (npc := 5) (v := 62) (by decide) dX8_putsBack_3 rfl ?_
  refine aw_icmp_ge (npc := 8) (tgt := 26) dX8_putsBack_5 rfl (by decide) (fun hc => absurd hc (by decide)) (fun _ => ?_)
  refine aw_aload_n (npc := 9) rfl dX8_putsBack_8 rfl ?_
  refine aw_get (npc := 12) dX8_putsBack_9 rfl kf_X8_9 (am_ne (by decide) g69) rfl ?_
  refine aw_iload_n (npc := 13) rfl dX8_putsBack_12 rfl ?_
  refine aw_aload_n (npc := 14) rfl dX8_putsBack_13 rfl ?_
  refine aw_get (npc := 17) dX8_putsBack_14 rfl kf_X8_26 (am_ne (by decide) g69) rfl ?_
  refine aw_iload_n (npc := 18) rfl dX8_putsBack_17 rfl ?_
  refine aw_iald (npc := 19) (x := 0) (j := 27) dX8_putsBack_18 rfl (am_ne (by decide) g74) ⟨by decide, by decide⟩ rfl ?_
  refine aw_iast (npc := 20) (j := 27) dX8_putsBack_19 rfl am_eq ⟨by decide, by decide⟩ (Nat.le_of_ble_eq_true rfl) (show _ = am_up _ 70 (.inl (0, nw 0 0 5 5 5 5)) from am_uu) ?_
  refine aw_iinc (npc := 23) (v := 28) (L' := [some (.ref 69), some (.int 28)]) dX8_putsBack_20 rfl rfl (by decide) (by decide) rfl rfl ?_
  refine aw_goto (npc := 2) dX8_putsBack_23 (by decide) ?_
  refine aw_iload_n (npc := 3) rfl dX8_putsBack_2 rfl ?_
  refine aw_bipush (npc := 5) (v := 62) (by decide) dX8_putsBack_3 rfl ?_
  refine aw_icmp_ge (npc := 8) (tgt := 26) dX8_putsBack_5 rfl (by decide) (fun hc => absurd hc (by decide)) (fun _ => ?_)
  refine aw_aload_n (npc := 9) rfl dX8_putsBack_8 rfl ?_
  refine aw_get (npc := 12) dX8_putsBack_9 rfl kf_X8_9 (am_ne (by decide) g69) rfl ?_
  refine aw_iload_n (npc := 13) rfl dX8_putsBack_12 rfl ?_
  refine aw_aload_n (npc := 14) rfl dX8_putsBack_13 rfl ?_
  refine aw_get (npc := 17) dX8_putsBack_14 rfl kf_X8_26 (am_ne (by decide) g69) rfl ?_
  refine aw_iload_n (npc := 18) rfl dX8_putsBack_17 rfl ?_
  refine aw_iald (npc := 19) (x := 0) (j := 28) dX8_putsBack_18 rfl (am_ne (by decide) g74) ⟨by decide, by decide⟩ rfl ?_
  refine aw_iast (npc := 20) (j := 28) dX8_putsBack_19 rfl am_eq ⟨by decide, by decide⟩ (Nat.le_of_ble_eq_true rfl) (show _ = am_up _ 70 (.inl (0, nw 0 0 5 5 5 5)) from am_uu) ?_
  refine aw_iinc (npc := 23) (v := 29) (L' := [some (.ref 69), some (.int 29)]) dX8_putsBack_20 rfl rfl (by decide) (by decide) rfl rfl ?_
  refine aw_goto (npc := 2) dX8_putsBack_23 (by decide) ?_
  refine aw_iload_n (npc := 3) rfl dX8_putsBack_2 rfl ?_
  refine aw_bipush (npc := 5) (v := 62) (by decide) dX8_putsBack_3 rfl ?_
  refine aw_icmp_ge (npc := 8) (tgt := 26) dX8_putsBack_5 rfl (by decide) (fun hc => absurd hc (by decide)) (fun _ => ?_)
  refine aw_aload_n (npc := 9) rfl dX8_putsBack_8 rfl ?_
  refine aw_get (npc := 12) dX8_putsBack_9 rfl kf_X8_9 (am_ne (by decide) g69) rfl ?_
  refine aw_iload_n (npc := 13) rfl dX8_putsBack_12 rfl ?_
  refine aw_aload_n (npc := 14) rfl dX8_putsBack_13 rfl ?_
  refine aw_get (npc := 17) dX8_putsBack_14 rfl kf_X8_26 (am_ne (by decide) g69) rfl ?_
  refine aw_iload_n (npc := 18) rfl dX8_putsBack_17 rfl ?_
  refine aw_iald (npc := 19) (x := 0) (j := 29) dX8_putsBack_18 rfl (am_ne (by decide) g74) ⟨by decide, by decide⟩ rfl ?_
  refine aw_iast (npc := 20) (j := 29) dX8_putsBack_19 rfl am_eq ⟨by decide, by decide⟩ (Nat.le_of_ble_eq_true rfl) (show _ = am_up _ 70 (.inl (0, nw 0 0 5 5 5 5)) from am_uu) ?_
  refine aw_iinc (npc := 23) (v := 30) (L' := [some (.ref 69), some (.int 30)]) dX8_putsBack_20 rfl rfl (by decide) (by decide) rfl rfl ?_
  refine aw_goto (npc := 2) dX8_putsBack_23 (by decide) ?_
  refine aw_iload_n (npc := 3) rfl dX8_putsBack_2 rfl ?_
  refine aw_bipush (npc := 5) (v := 62) (by decide) dX8_putsBack_3 rfl ?_
  refine aw_icmp_ge (npc := 8) (tgt := 26) dX8_putsBack_5 rfl (by decide) (fun hc => absurd hc (by decide)) (fun _ => ?_)
  refine aw_aload_n (npc := 9) rfl dX8_putsBack_8 rfl ?_
  refine aw_get (npc := 12) dX8_putsBack_9 rfl kf_X8_9 (am_ne (by decide) g69) rfl ?_
  refine aw_iload_n (npc := 13) rfl dX8_putsBack_12 rfl ?_
  refine aw_aload_n (npc := 14) rfl dX8_putsBack_13 rfl ?_
  refine aw_get (npc := 17) dX8_putsBack_14 rfl kf_X8_26 (am_ne (by decide) g69) rfl ?_
  refine aw_iload_n (npc := 18) rfl dX8_putsBack_17 rfl ?_
  refine aw_iald (npc := 19) (x := 0) (j := 30) dX8_putsBack_18 rfl (am_ne (by decide) g74) ⟨by decide, by decide⟩ rfl ?_
  refine aw_iast (npc := 20) (j := 30) dX8_putsBack_19 rfl am_eq ⟨by decide, by decide⟩ (Nat.le_of_ble_eq_true rfl) (show _ = am_up _ 70 (.inl (0, nw 0 0 5 5 5 5)) from am_uu) ?_
  refine aw_iinc (npc := 23) (v := 31) (L' := [some (.ref 69), some (.int 31)]) dX8_putsBack_20 rfl rfl (by decide) (by decide) rfl rfl ?_
  refine aw_goto (npc := 2) dX8_putsBack_23 (by decide) ?_
  refine aw_iload_n (npc := 3) rfl dX8_putsBack_2 rfl ?_
  refine aw_bipush (npc := 5) (v := 62) (by decide) dX8_putsBack_3 rfl ?_
  refine aw_icmp_ge (npc := 8) (tgt := 26) dX8_putsBack_5 rfl (by decide) (fun hc => absurd hc (by decide)) (fun _ => ?_)
  refine aw_aload_n (npc := 9) rfl dX8_putsBack_8 rfl ?_
  refine aw_get (npc := 12) dX8_putsBack_9 rfl kf_X8_9 (am_ne (by decide) g69) rfl ?_
  refine aw_iload_n (npc := 13) rfl dX8_putsBack_12 rfl ?_
  refine aw_aload_n (npc := 14) rfl dX8_putsBack_13 rfl ?_
  refine aw_get (npc := 17) dX8_putsBack_14 rfl kf_X8_26 (am_ne (by decide) g69) rfl ?_
  refine aw_iload_n (npc := 18) rfl dX8_putsBack_17 rfl ?_
  refine aw_iald (npc := 19) (x := 0) (j := 31) dX8_putsBack_18 rfl (am_ne (by decide) g74) ⟨by decide, by decide⟩ rfl ?_
  refine aw_iast (npc := 20) (j := 31) dX8_putsBack_19 rfl am_eq ⟨by decide, by decide⟩ (Nat.le_of_ble_eq_true rfl) (show _ = am_up _ 70 (.inl (0, nw 0 0 5 5 5 5)) from am_uu) ?_
  refine aw_iinc (npc := 23) (v := 32) (L' := [some (.ref 69), some (.int 32)]) dX8_putsBack_20 rfl rfl (by decide) (by decide) rfl rfl ?_
  refine aw_goto (npc := 2) dX8_putsBack_23 (by decide) ?_
  refine aw_iload_n (npc := 3) rfl dX8_putsBack_2 rfl ?_
  refine aw_bipush (npc := 5) (v := 62) (by decide) dX8_putsBack_3 rfl ?_
  refine aw_icmp_ge (npc := 8) (tgt := 26) dX8_putsBack_5 rfl (by decide) (fun hc => absurd hc (by decide)) (fun _ => ?_)
  refine aw_aload_n (npc := 9) rfl dX8_putsBack_8 rfl ?_
  refine aw_get (npc := 12) dX8_putsBack_9 rfl kf_X8_9 (am_ne (by decide) g69) rfl ?_
  refine aw_iload_n (npc := 13) rfl dX8_putsBack_12 rfl ?_
  refine aw_aload_n (npc := 14) rfl dX8_putsBack_13 rfl ?_
  refine aw_get (npc := 17) dX8_putsBack_14 rfl kf_X8_26 (am_ne (by decide) g69) rfl ?_
  refine aw_iload_n (npc := 18) rfl dX8_putsBack_17 rfl ?_
  refine aw_iald (npc := 19) (x := 0) (j := 32) dX8_putsBack_18 rfl (am_ne (by decide) g74) ⟨by decide, by decide⟩ rfl ?_
  refine aw_iast (npc := 20) (j := 32) dX8_putsBack_19 rfl am_eq ⟨by decide, by decide⟩ (Nat.le_of_ble_eq_true rfl) (show _ = am_up _ 70 (.inl (0, nw 0 0 5 5 5 5)) from am_uu) ?_
  refine aw_iinc (npc := 23) (v := 33) (L' := [some (.ref 69), some (.int 33)]) dX8_putsBack_20 rfl rfl (by decide) (by decide) rfl rfl ?_
  refine aw_goto (npc := 2) dX8_putsBack_23 (by decide) ?_
  refine aw_iload_n (npc := 3) rfl dX8_putsBack_2 rfl ?_
  refine aw_bipush (npc := 5) (v := 62) (by decide) dX8_putsBack_3 rfl ?_
  refine aw_icmp_ge (npc := 8) (tgt := 26) dX8_putsBack_5 rfl (by decide) (fun hc => absurd hc (by decide)) (fun _ => ?_)
  refine aw_aload_n (npc := 9) rfl dX8_putsBack_8 rfl ?_
  refine aw_get (npc := 12) dX8_putsBack_9 rfl kf_X8_9 (am_ne (by decide) g69) rfl ?_
  refine aw_iload_n (npc := 13) rfl dX8_putsBack_12 rfl ?_
  refine aw_aload_n (npc := 14) rfl dX8_putsBack_13 rfl ?_
  refine aw_get (npc := 17) dX8_putsBack_14 rfl kf_X8_26 (am_ne (by decide) g69) rfl ?_
  refine aw_iload_n (npc := 18) rfl dX8_putsBack_17 rfl ?_
  refine aw_iald (npc := 19) (x := 0) (j := 33) dX8_putsBack_18 rfl (am_ne (by decide) g74) ⟨by decide, by decide⟩ rfl ?_
  refine aw_iast (npc := 20) (j := 33) dX8_putsBack_19 rfl am_eq ⟨by decide, by decide⟩ (Nat.le_of_ble_eq_true rfl) (show _ = am_up _ 70 (.inl (0, nw 0 0 5 5 5 5)) from am_uu) ?_
  refine aw_iinc (npc := 23) (v := 34) (L' := [some (.ref 69), some (.int 34)]) dX8_putsBack_20 rfl rfl (by decide) (by decide) rfl rfl ?_
  refine aw_goto (npc := 2) dX8_putsBack_23 (by decide) ?_
  refine aw_iload_n (npc := 3) rfl dX8_putsBack_2 rfl ?_
  refine aw_bipush (npc := 5) (v := 62) (by decide) dX8_putsBack_3 rfl ?_
  refine aw_icmp_ge (npc := 8) (tgt := 26) dX8_putsBack_5 rfl (by decide) (fun hc => absurd hc (by decide)) (fun _ => ?_)
  refine aw_aload_n (npc := 9) rfl dX8_putsBack_8 rfl ?_
  refine aw_get (npc := 12) dX8_putsBack_9 rfl kf_X8_9 (am_ne (by decide) g69) rfl ?_
  refine aw_iload_n (npc := 13) rfl dX8_putsBack_12 rfl ?_
  refine aw_aload_n (npc := 14) rfl dX8_putsBack_13 rfl ?_
  refine aw_get (npc := 17) dX8_putsBack_14 rfl kf_X8_26 (am_ne (by decide) g69) rfl ?_
  refine aw_iload_n (npc := 18) rfl dX8_putsBack_17 rfl ?_
  refine aw_iald (npc := 19) (x := 0) (j := 34) dX8_putsBack_18 rfl (am_ne (by decide) g74) ⟨by decide, by decide⟩ rfl ?_
  refine aw_iast (npc := 20) (j := 34) dX8_putsBack_19 rfl am_eq ⟨by decide, by decide⟩ (Nat.le_of_ble_eq_true rfl) (show _ = am_up _ 70 (.inl (0, nw 0 0 5 5 5 5)) from am_uu) ?_
  refine aw_iinc (npc := 23) (v := 35) (L' := [some (.ref 69), some (.int 35)]) dX8_putsBack_20 rfl rfl (by decide) (by decide) rfl rfl ?_
  refine aw_goto (npc := 2) dX8_putsBack_23 (by decide) ?_
  refine aw_iload_n (npc := 3) rfl dX8_putsBack_2 rfl ?_
  refine aw_bipush (npc := 5) (v := 62) (by decide) dX8_putsBack_3 rfl ?_
  refine aw_icmp_ge (npc := 8) (tgt := 26) dX8_putsBack_5 rfl (by decide) (fun hc => absurd hc (by decide)) (fun _ => ?_)
  refine aw_aload_n (npc := 9) rfl dX8_putsBack_8 rfl ?_
  refine aw_get (npc := 12) dX8_putsBack_9 rfl kf_X8_9 (am_ne (by decide) g69) rfl ?_
  refine aw_iload_n (npc := 13) rfl dX8_putsBack_12 rfl ?_
  refine aw_aload_n (npc := 14) rfl dX8_putsBack_13 rfl ?_
  refine aw_get (npc := 17) dX8_putsBack_14 rfl kf_X8_26 (am_ne (by decide) g69) rfl ?_
  refine aw_iload_n (npc := 18) rfl dX8_putsBack_17 rfl ?_
  refine aw_iald (npc := 19) (x := 0) (j := 35) dX8_putsBack_18 rfl (am_ne (by decide) g74) ⟨by decide, by decide⟩ rfl ?_
  refine aw_iast (npc := 20) (j := 35) dX8_putsBack_19 rfl am_eq ⟨by decide, by decide⟩ (Nat.le_of_ble_eq_true rfl) (show _ = am_up _ 70 (.inl (0, nw 0 0 5 5 5 5)) from am_uu) ?_
  refine aw_iinc (npc := 23) (v := 36) (L' := [some (.ref 69), some (.int 36)]) dX8_putsBack_20 rfl rfl (by decide) (by decide) rfl rfl ?_
  refine aw_goto (npc := 2) dX8_putsBack_23 (by decide) ?_
  refine aw_iload_n (npc := 3) rfl dX8_putsBack_2 rfl ?_
  refine aw_bipush (npc := 5) (v := 62) (by decide) dX8_putsBack_3 rfl ?_
  refine aw_icmp_ge (npc := 8) (tgt := 26) dX8_putsBack_5 rfl (by decide) (fun hc => absurd hc (by decide)) (fun _ => ?_)
  refine aw_aload_n (npc := 9) rfl dX8_putsBack_8 rfl ?_
  refine aw_get (npc := 12) dX8_putsBack_9 rfl kf_X8_9 (am_ne (by decide) g69) rfl ?_
  refine aw_iload_n (npc := 13) rfl dX8_putsBack_12 rfl ?_
  refine aw_aload_n (npc := 14) rfl dX8_putsBack_13 rfl ?_
  refine aw_get (npc := 17) dX8_putsBack_14 rfl kf_X8_26 (am_ne (by decide) g69) rfl ?_
  refine aw_iload_n (npc := 18) rfl dX8_putsBack_17 rfl ?_
  refine aw_iald (npc := 19) (x := 0) (j := 36) dX8_putsBack_18 rfl (am_ne (by decide) g74) ⟨by decide, by decide⟩ rfl ?_
  refine aw_iast (npc := 20) (j := 36) dX8_putsBack_19 rfl am_eq ⟨by decide, by decide⟩ (Nat.le_of_ble_eq_true rfl) (show _ = am_up _ 70 (.inl (0, nw 0 0 5 5 5 5)) from am_uu) ?_
  refine aw_iinc (npc := 23) (v := 37) (L' := [some (.ref 69), some (.int 37)]) dX8_putsBack_20 rfl rfl (by decide) (by decide) rfl rfl ?_
  refine aw_goto (npc := 2) dX8_putsBack_23 (by decide) ?_
  refine aw_iload_n (npc := 3) rfl dX8_putsBack_2 rfl ?_
  refine aw_bipush (npc := 5) (v := 62) (by decide) dX8_putsBack_3 rfl ?_
  refine aw_icmp_ge (npc := 8) (tgt := 26) dX8_putsBack_5 rfl (by decide) (fun hc => absurd hc (by decide)) (fun _ => ?_)
  refine aw_aload_n (npc := 9) rfl dX8_putsBack_8 rfl ?_
  refine aw_get (npc := 12) dX8_putsBack_9 rfl kf_X8_9 (am_ne (by decide) g69) rfl ?_
  refine aw_iload_n (npc := 13) rfl dX8_putsBack_12 rfl ?_
  refine aw_aload_n (npc := 14) rfl dX8_putsBack_13 rfl ?_
  refine aw_get (npc := 17) dX8_putsBack_14 rfl kf_X8_26 (am_ne (by decide) g69) rfl ?_
  refine aw_iload_n (npc := 18) rfl dX8_putsBack_17 rfl ?_
  refine aw_iald (npc := 19) (x := 0) (j := 37) dX8_putsBack_18 rfl (am_ne (by decide) g74) ⟨by decide, by decide⟩ rfl ?_
  refine aw_iast (npc := 20) (j := 37) dX8_putsBack_19 rfl am_eq ⟨by decide, by decide⟩ (Nat.le_of_ble_eq_true rfl) (show _ = am_up _ 70 (.inl (0, nw 0 0 5 5 5 5)) from am_uu) ?_
  refine aw_iinc (npc := 23) (v := 38) (L' := [some (.ref 69), some (.int 38)]) dX8_putsBack_20 rfl rfl (by decide) (by decide) rfl rfl ?_
  refine aw_goto (npc := 2) dX8_putsBack_23 (by decide) ?_
  refine aw_iload_n (npc := 3) rfl dX8_putsBack_2 rfl ?_
  refine aw_bipush (npc := 5) (v := 62) (by decide) dX8_putsBack_3 rfl ?_
  refine aw_icmp_ge (npc := 8) (tgt := 26) dX8_putsBack_5 rfl (by decide) (fun hc => absurd hc (by decide)) (fun _ => ?_)
  refine aw_aload_n (npc := 9) rfl dX8_putsBack_8 rfl ?_
  refine aw_get (npc := 12) dX8_putsBack_9 rfl kf_X8_9 (am_ne (by decide) g69) rfl ?_
  refine aw_iload_n (npc := 13) rfl dX8_putsBack_12 rfl ?_
  refine aw_aload_n (npc := 14) rfl dX8_putsBack_13 rfl ?_
  refine aw_get (npc := 17) dX8_putsBack_14 rfl kf_X8_26 (am_ne (by decide) g69) rfl ?_
  refine aw_iload_n (npc := 18) rfl dX8_putsBack_17 rfl ?_
  refine aw_iald (npc := 19) (x := 0) (j := 38) dX8_putsBack_18 rfl (am_ne (by decide) g74) ⟨by decide, by decide⟩ rfl ?_
  refine aw_iast (npc := 20) (j := 38) dX8_putsBack_19 rfl am_eq ⟨by decide, by decide⟩ (Nat.le_of_ble_eq_true rfl) (show _ = am_up _ 70 (.inl (0, nw 0 0 5 5 5 5)) from am_uu) ?_
  refine aw_iinc (npc := 23) (v := 39) (L' := [some (.ref 69), some (.int 39)]) dX8_putsBack_20 rfl rfl (by decide) (by decide) rfl rfl ?_
  refine aw_goto (npc := 2) dX8_putsBack_23 (by decide) ?_
  refine aw_iload_n (npc := 3) rfl dX8_putsBack_2 rfl ?_
  refine aw_bipush (npc := 5) (v := 62) (by decide) dX8_putsBack_3 rfl ?_
  refine aw_icmp_ge (npc := 8) (tgt := 26) dX8_putsBack_5 rfl (by decide) (fun hc => absurd hc (by decide)) (fun _ => ?_)
  refine aw_aload_n (npc := 9) rfl dX8_putsBack_8 rfl ?_
  refine aw_get (npc := 12) dX8_putsBack_9 rfl kf_X8_9 (am_ne (by decide) g69) rfl ?_
  refine aw_iload_n (npc := 13) rfl dX8_putsBack_12 rfl ?_
  refine aw_aload_n (npc := 14) rfl dX8_putsBack_13 rfl ?_
  refine aw_get (npc := 17) dX8_putsBack_14 rfl kf_X8_26 (am_ne (by decide) g69) rfl ?_
  refine aw_iload_n (npc := 18) rfl dX8_putsBack_17 rfl ?_
  refine aw_iald (npc := 19) (x := 0) (j := 39) dX8_putsBack_18 rfl (am_ne (by decide) g74) ⟨by decide, by decide⟩ rfl ?_
  refine aw_iast (npc := 20) (j := 39) dX8_putsBack_19 rfl am_eq ⟨by decide, by decide⟩ (Nat.le_of_ble_eq_true rfl) (show _ = am_up _ 70 (.inl (0, nw 0 0 5 5 5 5)) from am_uu) ?_
  refine aw_iinc (npc := 23) (v := 40) (L' := [some (.ref 69), some (.int 40)]) dX8_putsBack_20 rfl rfl (by decide) (by decide) rfl rfl ?_
  refine aw_goto (npc := 2) dX8_putsBack_23 (by decide) ?_
  refine aw_iload_n (npc := 3) rfl dX8_putsBack_2 rfl ?_
  refine aw_bipush (npc := 5) (v := 62) (by decide) dX8_putsBack_3 rfl ?_
  refine aw_icmp_ge (npc := 8) (tgt := 26) dX8_putsBack_5 rfl (by decide) (fun hc => absurd hc (by decide)) (fun _ => ?_)
  refine aw_aload_n (npc := 9) rfl dX8_putsBack_8 rfl ?_
  refine aw_get (npc := 12) dX8_putsBack_9 rfl kf_X8_9 (am_ne (by decide) g69) rfl ?_
  refine aw_iload_n (npc := 13) rfl dX8_putsBack_12 rfl ?_
  refine aw_aload_n (npc := 14) rfl dX8_putsBack_13 rfl ?_
  refine aw_get (npc := 17) dX8_putsBack_14 rfl kf_X8_26 (am_ne (by decide) g69) rfl ?_
  refine aw_iload_n (npc := 18) rfl dX8_putsBack_17 rfl ?_
  refine aw_iald (npc := 19) (x := 0) (j := 40) dX8_putsBack_18 rfl (am_ne (by decide) g74) ⟨by decide, by decide⟩ rfl ?_
  refine aw_iast (npc := 20) (j := 40) dX8_putsBack_19 rfl am_eq ⟨by decide, by decide⟩ (Nat.le_of_ble_eq_true rfl) (show _ = am_up _ 70 (.inl (0, nw 0 0 5 5 5 5)) from am_uu) ?_
  refine aw_iinc (npc := 23) (v := 41) (L' := [some (.ref 69), some (.int 41)]) dX8_putsBack_20 rfl rfl (by decide) (by decide) rfl rfl ?_
  refine aw_goto (npc := 2) dX8_putsBack_23 (by decide) ?_
  refine aw_iload_n (npc := 3) rfl dX8_putsBack_2 rfl ?_
  refine aw_bipush (npc := 5) (v := 62) (by decide) dX8_putsBack_3 rfl ?_
  refine aw_icmp_ge (npc := 8) (tgt := 26) dX8_putsBack_5 rfl (by decide) (fun hc => absurd hc (by decide)) (fun _ => ?_)
  refine aw_aload_n (npc := 9) rfl dX8_putsBack_8 rfl ?_
  refine aw_get (npc := 12) dX8_putsBack_9 rfl kf_X8_9 (am_ne (by decide) g69) rfl ?_
  refine aw_iload_n (npc := 13) rfl dX8_putsBack_12 rfl ?_
  refine aw_aload_n (npc := 14) rfl dX8_putsBack_13 rfl ?_
  refine aw_get (npc := 17) dX8_putsBack_14 rfl kf_X8_26 (am_ne (by decide) g69) rfl ?_
  refine aw_iload_n (npc := 18) rfl dX8_putsBack_17 rfl ?_
  refine aw_iald (npc := 19) (x := 0) (j := 41) dX8_putsBack_18 rfl (am_ne (by decide) g74) ⟨by decide, by decide⟩ rfl ?_
  refine aw_iast (npc := 20) (j := 41) dX8_putsBack_19 rfl am_eq ⟨by decide, by decide⟩ (Nat.le_of_ble_eq_true rfl) (show _ = am_up _ 70 (.inl (0, nw 0 0 5 5 5 5)) from am_uu) ?_
  refine aw_iinc (npc := 23) (v := 42) (L' := [some (.ref 69), some (.int 42)]) dX8_putsBack_20 rfl rfl (by decide) (by decide) rfl rfl ?_
  refine aw_goto (npc := 2) dX8_putsBack_23 (by decide) ?_
  refine aw_iload_n (npc := 3) rfl dX8_putsBack_2 rfl ?_
  refine aw_bipush (npc := 5) (v := 62) (by decide) dX8_putsBack_3 rfl ?_
  refine aw_icmp_ge (npc := 8) (tgt := 26) dX8_putsBack_5 rfl (by decide) (fun hc => absurd hc (by decide)) (fun _ => ?_)
  refine aw_aload_n (npc := 9) rfl dX8_putsBack_8 rfl ?_
  refine aw_get (npc := 12) dX8_putsBack_9 rfl kf_X8_9 (am_ne (by decide) g69) rfl ?_
  refine aw_iload_n (npc := 13) rfl dX8_putsBack_12 rfl ?_
  refine aw_aload_n (npc := 14) rfl dX8_putsBack_13 rfl ?_
  refine aw_get (npc := 17) dX8_putsBack_14 rfl kf_X8_26 (am_ne (by decide) g69) rfl ?_
  refine aw_iload_n (npc := 18) rfl dX8_putsBack_17 rfl ?_
  refine aw_iald (npc := 19) (x := 0) (j := 42) dX8_putsBack_18 rfl (am_ne (by decide) g74) ⟨by decide, by decide⟩ rfl ?_
  refine aw_iast (npc := 20) (j := 42) dX8_putsBack_19 rfl am_eq ⟨by decide, by decide⟩ (Nat.le_of_ble_eq_true rfl) (show _ = am_up _ 70 (.inl (0, nw 0 0 5 5 5 5)) from am_uu) ?_
  refine aw_iinc (npc := 23) (v := 43) (L' := [some (.ref 69), some (.int 43)]) dX8_putsBack_20 rfl rfl (by decide) (by decide) rfl rfl ?_
  refine aw_goto (npc := 2) dX8_putsBack_23 (by decide) ?_
  refine aw_iload_n (npc := 3) rfl dX8_putsBack_2 rfl ?_
  refine aw_bipush (npc := 5) (v := 62) (by decide) dX8_putsBack_3 rfl ?_
  refine aw_icmp_ge (npc := 8) (tgt := 26) dX8_putsBack_5 rfl (by decide) (fun hc => absurd hc (by decide)) (fun _ => ?_)
  refine aw_aload_n (npc := 9) rfl dX8_putsBack_8 rfl ?_
  refine aw_get (npc := 12) dX8_putsBack_9 rfl kf_X8_9 (am_ne (by decide) g69) rfl ?_
  refine aw_iload_n (npc := 13) rfl dX8_putsBack_12 rfl ?_
  refine aw_aload_n (npc := 14) rfl dX8_putsBack_13 rfl ?_
  refine aw_get (npc := 17) dX8_putsBack_14 rfl kf_X8_26 (am_ne (by decide) g69) rfl ?_
  refine aw_iload_n (npc := 18) rfl dX8_putsBack_17 rfl ?_
  refine aw_iald (npc := 19) (x := 0) (j := 43) dX8_putsBack_18 rfl (am_ne (by decide) g74) ⟨by decide, by decide⟩ rfl ?_
  refine aw_iast (npc := 20) (j := 43) dX8_putsBack_19 rfl am_eq ⟨by decide, by decide⟩ (Nat.le_of_ble_eq_true rfl) (show _ = am_up _ 70 (.inl (0, nw 0 0 5 5 5 5)) from am_uu) ?_
  refine aw_iinc (npc := 23) (v := 44) (L' := [some (.ref 69), some (.int 44)]) dX8_putsBack_20 rfl rfl (by decide) (by decide) rfl rfl ?_
  refine aw_goto (npc := 2) dX8_putsBack_23 (by decide) ?_
  refine aw_iload_n (npc := 3) rfl dX8_putsBack_2 rfl ?_
  refine aw_bipush (npc := 5) (v := 62) (by decide) dX8_putsBack_3 rfl ?_
  refine aw_icmp_ge (npc := 8) (tgt := 26) dX8_putsBack_5 rfl (by decide) (fun hc => absurd hc (by decide)) (fun _ => ?_)
  refine aw_aload_n (npc := 9) rfl dX8_putsBack_8 rfl ?_
  refine aw_get (npc := 12) dX8_putsBack_9 rfl kf_X8_9 (am_ne (by decide) g69) rfl ?_
  refine aw_iload_n (npc := 13) rfl dX8_putsBack_12 rfl ?_
  refine aw_aload_n (npc := 14) rfl dX8_putsBack_13 rfl ?_
  refine aw_get (npc := 17) dX8_putsBack_14 rfl kf_X8_26 (am_ne (by decide) g69) rfl ?_
  refine aw_iload_n (npc := 18) rfl dX8_putsBack_17 rfl ?_
  refine aw_iald (npc := 19) (x := 0) (j := 44) dX8_putsBack_18 rfl (am_ne (by decide) g74) ⟨by decide, by decide⟩ rfl ?_
  refine aw_iast (npc := 20) (j := 44) dX8_putsBack_19 rfl am_eq ⟨by decide, by decide⟩ (Nat.le_of_ble_eq_true rfl) (show _ = am_up _ 70 (.inl (0, nw 0 0 5 5 5 5)) from am_uu) ?_
  refine aw_iinc (npc := 23) (v := 45) (L' := [some (.ref 69), some (.int 45)]) dX8_putsBack_20 rfl rfl (by decide) (by decide) rfl rfl ?_
  refine aw_goto (npc := 2) dX8_putsBack_23 (by decide) ?_
  refine aw_iload_n (npc := 3) rfl dX8_putsBack_2 rfl ?_
  refine aw_bipush (npc := 5) (v := 62) (by decide) dX8_putsBack_3 rfl ?_
  refine aw_icmp_ge (npc := 8) (tgt := 26) dX8_putsBack_5 rfl (by decide) (fun hc => absurd hc (by decide)) (fun _ => ?_)
  refine aw_aload_n (npc := 9) rfl dX8_putsBack_8 rfl ?_
  refine aw_get (npc := 12) dX8_putsBack_9 rfl kf_X8_9 (am_ne (by decide) g69) rfl ?_
  refine aw_iload_n (npc := 13) rfl dX8_putsBack_12 rfl ?_
  refine aw_aload_n (npc := 14) rfl dX8_putsBack_13 rfl ?_
  refine aw_get (npc := 17) dX8_putsBack_14 rfl kf_X8_26 (am_ne (by decide) g69) rfl ?_
  refine aw_iload_n (npc := 18) rfl dX8_putsBack_17 rfl ?_
  refine aw_iald (npc := 19) (x := 0) (j := 45) dX8_putsBack_18 rfl (am_ne (by decide) g74) ⟨by decide, by decide⟩ rfl ?_
  refine aw_iast (npc := 20) (j := 45) dX8_putsBack_19 rfl am_eq ⟨by decide, by decide⟩ (Nat.le_of_ble_eq_true rfl) (show _ = am_up _ 70 (.inl (0, nw 0 0 5 5 5 5)) from am_uu) ?_
  refine aw_iinc (npc := 23) (v := 46) (L' := [some (.ref 69), some (.int 46)]) dX8_putsBack_20 rfl rfl (by decide) (by decide) rfl rfl ?_
  refine aw_goto (npc := 2) dX8_putsBack_23 (by decide) ?_
  refine aw_iload_n (npc := 3) rfl dX8_putsBack_2 rfl ?_
  refine aw_bipush (npc := 5) (v := 62) (by decide) dX8_putsBack_3 rfl ?_
  refine aw_icmp_ge (npc := 8) (tgt := 26) dX8_putsBack_5 rfl (by decide) (fun hc => absurd hc (by decide)) (fun _ => ?_)
  refine aw_aload_n (npc := 9) rfl dX8_putsBack_8 rfl ?_
  refine aw_get (npc := 12) dX8_putsBack_9 rfl kf_X8_9 (am_ne (by decide) g69) rfl ?_
  refine aw_iload_n (npc := 13) rfl dX8_putsBack_12 rfl ?_
  refine aw_aload_n (npc := 14) rfl dX8_putsBack_13 rfl ?_
  refine aw_get (npc := 17) dX8_putsBack_14 rfl kf_X8_26 (am_ne (by decide) g69) rfl ?_
  refine aw_iload_n (npc := 18) rfl dX8_putsBack_17 rfl ?_
  refine aw_iald (npc := 19) (x := 0) (j := 46) dX8_putsBack_18 rfl (am_ne (by decide) g74) ⟨by decide, by decide⟩ rfl ?_
  refine aw_iast (npc := 20) (j := 46) dX8_putsBack_19 rfl am_eq ⟨by decide, by decide⟩ (Nat.le_of_ble_eq_true rfl) (show _ = am_up _ 70 (.inl (0, nw 0 0 5 5 5 5)) from am_uu) ?_
  refine aw_iinc (npc := 23) (v := 47) (L' := [some (.ref 69), some (.int 47)]) dX8_putsBack_20 rfl rfl (by decide) (by decide) rfl rfl ?_
  refine aw_goto (npc := 2) dX8_putsBack_23 (by decide) ?_
  refine aw_iload_n (npc := 3) rfl dX8_putsBack_2 rfl ?_
  refine aw_bipush (npc := 5) (v := 62) (by decide) dX8_putsBack_3 rfl ?_
  refine aw_icmp_ge (npc := 8) (tgt := 26) dX8_putsBack_5 rfl (by decide) (fun hc => absurd hc (by decide)) (fun _ => ?_)
  refine aw_aload_n (npc := 9) rfl dX8_putsBack_8 rfl ?_
  refine aw_get (npc := 12) dX8_putsBack_9 rfl kf_X8_9 (am_ne (by decide) g69) rfl ?_
  refine aw_iload_n (npc := 13) rfl dX8_putsBack_12 rfl ?_
  refine aw_aload_n (npc := 14) rfl dX8_putsBack_13 rfl ?_
  refine aw_get (npc := 17) dX8_putsBack_14 rfl kf_X8_26 (am_ne (by decide) g69) rfl ?_
  refine aw_iload_n (npc := 18) rfl dX8_putsBack_17 rfl ?_
  refine aw_iald (npc := 19) (x := 0) (j := 47) dX8_putsBack_18 rfl (am_ne (by decide) g74) ⟨by decide, by decide⟩ rfl ?_
  refine aw_iast (npc := 20) (j := 47) dX8_putsBack_19 rfl am_eq ⟨by decide, by decide⟩ (Nat.le_of_ble_eq_true rfl) (show _ = am_up _ 70 (.inl (0, nw 0 0 5 5 5 5)) from am_uu) ?_
  refine aw_iinc (npc := 23) (v := 48) (L' := [some (.ref 69), some (.int 48)]) dX8_putsBack_20 rfl rfl (by decide) (by decide) rfl rfl ?_
  refine aw_goto (npc := 2) dX8_putsBack_23 (by decide) ?_
  refine aw_iload_n (npc := 3) rfl dX8_putsBack_2 rfl ?_
  refine aw_bipush (npc := 5) (v := 62) (by decide) dX8_putsBack_3 rfl ?_
  refine aw_icmp_ge (npc := 8) (tgt := 26) dX8_putsBack_5 rfl (by decide) (fun hc => absurd hc (by decide)) (fun _ => ?_)
  refine aw_aload_n (npc := 9) rfl dX8_putsBack_8 rfl ?_
  refine aw_get (npc := 12) dX8_putsBack_9 rfl kf_X8_9 (am_ne (by decide) g69) rfl ?_
  refine aw_iload_n (npc := 13) rfl dX8_putsBack_12 rfl ?_
  refine aw_aload_n (npc := 14) rfl dX8_putsBack_13 rfl ?_
  refine aw_get (npc := 17) dX8_putsBack_14 rfl kf_X8_26 (am_ne (by decide) g69) rfl ?_
  refine aw_iload_n (npc := 18) rfl dX8_putsBack_17 rfl ?_
  refine aw_iald (npc := 19) (x := 0) (j := 48) dX8_putsBack_18 rfl (am_ne (by decide) g74) ⟨by decide, by decide⟩ rfl ?_
  refine aw_iast (npc := 20) (j := 48) dX8_putsBack_19 rfl am_eq ⟨by decide, by decide⟩ (Nat.le_of_ble_eq_true rfl) (show _ = am_up _ 70 (.inl (0, nw 0 0 5 5 5 5)) from am_uu) ?_
  refine aw_iinc (npc := 23) (v := 49) (L' := [some (.ref 69), some (.int 49)]) dX8_putsBack_20 rfl rfl (by decide) (by decide) rfl rfl ?_
  refine aw_goto (npc := 2) dX8_putsBack_23 (by decide) ?_
  refine aw_iload_n (npc := 3) rfl dX8_putsBack_2 rfl ?_
  refine aw_bipush (npc := 5) (v := 62) (by decide) dX8_putsBack_3 rfl ?_
  refine aw_icmp_ge (npc := 8) (tgt := 26) dX8_putsBack_5 rfl (by decide) (fun hc => absurd hc (by decide)) (fun _ => ?_)
  refine aw_aload_n (npc := 9) rfl dX8_putsBack_8 rfl ?_
  refine aw_get (npc := 12) dX8_putsBack_9 rfl kf_X8_9 (am_ne (by decide) g69) rfl ?_
  refine aw_iload_n (npc := 13) rfl dX8_putsBack_12 rfl ?_
  refine aw_aload_n (npc := 14) rfl dX8_putsBack_13 rfl ?_
  refine aw_get (npc := 17) dX8_putsBack_14 rfl kf_X8_26 (am_ne (by decide) g69) rfl ?_
  refine aw_iload_n (npc := 18) rfl dX8_putsBack_17 rfl ?_
  refine aw_iald (npc := 19) (x := 0) (j := 49) dX8_putsBack_18 rfl (am_ne (by decide) g74) ⟨by decide, by decide⟩ rfl ?_
  refine aw_iast (npc := 20) (j := 49) dX8_putsBack_19 rfl am_eq ⟨by decide, by decide⟩ (Nat.le_of_ble_eq_true rfl) (show _ = am_up _ 70 (.inl (0, nw 0 0 5 5 5 5)) from am_uu) ?_
  refine aw_iinc (npc := 23) (v := 50) (L' := [some (.ref 69), some (.int 50)]) dX8_putsBack_20 rfl rfl (by decide) (by decide) rfl rfl ?_
  refine aw_goto (npc := 2) dX8_putsBack_23 (by decide) ?_
  refine aw_iload_n (npc := 3) rfl dX8_putsBack_2 rfl ?_
  refine aw_bipush (npc := 5) (v := 62) (by decide) dX8_putsBack_3 rfl ?_
  refine aw_icmp_ge (npc := 8) (tgt := 26) dX8_putsBack_5 rfl (by decide) (fun hc => absurd hc (by decide)) (fun _ => ?_)
  refine aw_aload_n (npc := 9) rfl dX8_putsBack_8 rfl ?_
  refine aw_get (npc := 12) dX8_putsBack_9 rfl kf_X8_9 (am_ne (by decide) g69) rfl ?_
  refine aw_iload_n (npc := 13) rfl dX8_putsBack_12 rfl ?_
  refine aw_aload_n (npc := 14) rfl dX8_putsBack_13 rfl ?_
  refine aw_get (npc := 17) dX8_putsBack_14 rfl kf_X8_26 (am_ne (by decide) g69) rfl ?_
  refine aw_iload_n (npc := 18) rfl dX8_putsBack_17 rfl ?_
  refine aw_iald (npc := 19) (x := 0) (j := 50) dX8_putsBack_18 rfl (am_ne (by decide) g74) ⟨by decide, by decide⟩ rfl ?_
  refine aw_iast (npc := 20) (j := 50) dX8_putsBack_19 rfl am_eq ⟨by decide, by decide⟩ (Nat.le_of_ble_eq_true rfl) (show _ = am_up _ 70 (.inl (0, nw 0 0 5 5 5 5)) from am_uu) ?_
  refine aw_iinc (npc := 23) (v := 51) (L' := [some (.ref 69), some (.int 51)]) dX8_putsBack_20 rfl rfl (by decide) (by decide) rfl rfl ?_
  refine aw_goto (npc := 2) dX8_putsBack_23 (by decide) ?_
  refine aw_iload_n (npc := 3) rfl dX8_putsBack_2 rfl ?_
  refine aw_bipush (npc := 5) (v := 62) (by decide) dX8_putsBack_3 rfl ?_
  refine aw_icmp_ge (npc := 8) (tgt := 26) dX8_putsBack_5 rfl (by decide) (fun hc => absurd hc (by decide)) (fun _ => ?_)
  refine aw_aload_n (npc := 9) rfl dX8_putsBack_8 rfl ?_
  refine aw_get (npc := 12) dX8_putsBack_9 rfl kf_X8_9 (am_ne (by decide) g69) rfl ?_
  refine aw_iload_n (npc := 13) rfl dX8_putsBack_12 rfl ?_
  refine aw_aload_n (npc := 14) rfl dX8_putsBack_13 rfl ?_
  refine aw_get (npc := 17) dX8_putsBack_14 rfl kf_X8_26 (am_ne (by decide) g69) rfl ?_
  refine aw_iload_n (npc := 18) rfl dX8_putsBack_17 rfl ?_
  refine aw_iald (npc := 19) (x := 0) (j := 51) dX8_putsBack_18 rfl (am_ne (by decide) g74) ⟨by decide, by decide⟩ rfl ?_
  refine aw_iast (npc := 20) (j := 51) dX8_putsBack_19 rfl am_eq ⟨by decide, by decide⟩ (Nat.le_of_ble_eq_true rfl) (show _ = am_up _ 70 (.inl (0, nw 0 0 5 5 5 5)) from am_uu) ?_
  refine aw_iinc (npc := 23) (v := 52) (L' := [some (.ref 69), some (.int 52)]) dX8_putsBack_20 rfl rfl (by decide) (by decide) rfl rfl ?_
  refine aw_goto (npc := 2) dX8_putsBack_23 (by decide) ?_
  refine aw_iload_n (npc := 3) rfl dX8_putsBack_2 rfl ?_
  refine aw_bipush (npc := 5) (v := 62) (by decide) dX8_putsBack_3 rfl ?_
  refine aw_icmp_ge (npc := 8) (tgt := 26) dX8_putsBack_5 rfl (by decide) (fun hc => absurd hc (by decide)) (fun _ => ?_)
  refine aw_aload_n (npc := 9) rfl dX8_putsBack_8 rfl ?_
  refine aw_get (npc := 12) dX8_putsBack_9 rfl kf_X8_9 (am_ne (by decide) g69) rfl ?_
  refine aw_iload_n (npc := 13) rfl dX8_putsBack_12 rfl ?_
  refine aw_aload_n (npc := 14) rfl dX8_putsBack_13 rfl ?_
  refine aw_get (npc := 17) dX8_putsBack_14 rfl kf_X8_26 (am_ne (by decide) g69) rfl ?_
  refine aw_iload_n (npc := 18) rfl dX8_putsBack_17 rfl ?_
  refine aw_iald (npc := 19) (x := 0) (j := 52) dX8_putsBack_18 rfl (am_ne (by decide) g74) ⟨by decide, by decide⟩ rfl ?_
  refine aw_iast (npc := 20) (j := 52) dX8_putsBack_19 rfl am_eq ⟨by decide, by decide⟩ (Nat.le_of_ble_eq_true rfl) (show _ = am_up _ 70 (.inl (0, nw 0 0 5 5 5 5)) from am_uu) ?_
  refine aw_iinc (npc := 23) (v := 53) (L' := [some (.ref 69), some (.int 53)]) dX8_putsBack_20 rfl rfl (by decide) (by decide) rfl rfl ?_
  refine aw_goto (npc := 2) dX8_putsBack_23 (by decide) ?_
  refine aw_iload_n (npc := 3) rfl dX8_putsBack_2 rfl ?_
  refine aw_bipush (npc := 5) (v := 62) (by decide) dX8_putsBack_3 rfl ?_
  refine aw_icmp_ge (npc := 8) (tgt := 26) dX8_putsBack_5 rfl (by decide) (fun hc => absurd hc (by decide)) (fun _ => ?_)
  refine aw_aload_n (npc := 9) rfl dX8_putsBack_8 rfl ?_
  refine aw_get (npc := 12) dX8_putsBack_9 rfl kf_X8_9 (am_ne (by decide) g69) rfl ?_
  refine aw_iload_n (npc := 13) rfl dX8_putsBack_12 rfl ?_
  refine aw_aload_n (npc := 14) rfl dX8_putsBack_13 rfl ?_
  refine aw_get (npc := 17) dX8_putsBack_14 rfl kf_X8_26 (am_ne (by decide) g69) rfl ?_
  refine aw_iload_n (npc := 18) rfl dX8_putsBack_17 rfl ?_
  refine aw_iald (npc := 19) (x := 0) (j := 53) dX8_putsBack_18 rfl (am_ne (by decide) g74) ⟨by decide, by decide⟩ rfl ?_
  refine aw_iast (npc := 20) (j := 53) dX8_putsBack_19 rfl am_eq ⟨by decide, by decide⟩ (Nat.le_of_ble_eq_true rfl) (show _ = am_up _ 70 (.inl (0, nw 0 0 5 5 5 5)) from am_uu) ?_
  refine aw_iinc (npc := 23) (v := 54) (L' := [some (.ref 69), some (.int 54)]) dX8_putsBack_20 rfl rfl (by decide) (by decide) rfl rfl ?_
  refine aw_goto (npc := 2) dX8_putsBack_23 (by decide) ?_
  refine aw_iload_n (npc := 3) rfl dX8_putsBack_2 rfl ?_
  refine aw_bipush (npc := 5) (v := 62) (by decide) dX8_putsBack_3 rfl ?_
  refine aw_icmp_ge (npc := 8) (tgt := 26) dX8_putsBack_5 rfl (by decide) (fun hc => absurd hc (by decide)) (fun _ => ?_)
  refine aw_aload_n (npc := 9) rfl dX8_putsBack_8 rfl ?_
  refine aw_get (npc := 12) dX8_putsBack_9 rfl kf_X8_9 (am_ne (by decide) g69) rfl ?_
  refine aw_iload_n (npc := 13) rfl dX8_putsBack_12 rfl ?_
  refine aw_aload_n (npc := 14) rfl dX8_putsBack_13 rfl ?_
  refine aw_get (npc := 17) dX8_putsBack_14 rfl kf_X8_26 (am_ne (by decide) g69) rfl ?_
  refine aw_iload_n (npc := 18) rfl dX8_putsBack_17 rfl ?_
  refine aw_iald (npc := 19) (x := 0) (j := 54) dX8_putsBack_18 rfl (am_ne (by decide) g74) ⟨by decide, by decide⟩ rfl ?_
  refine aw_iast (npc := 20) (j := 54) dX8_putsBack_19 rfl am_eq ⟨by decide, by decide⟩ (Nat.le_of_ble_eq_true rfl) (show _ = am_up _ 70 (.inl (0, nw 0 0 5 5 5 5)) from am_uu) ?_
  refine aw_iinc (npc := 23) (v := 55) (L' := [some (.ref 69), some (.int 55)]) dX8_putsBack_20 rfl rfl (by decide) (by decide) rfl rfl ?_
  refine aw_goto (npc := 2) dX8_putsBack_23 (by decide) ?_
  refine aw_iload_n (npc := 3) rfl dX8_putsBack_2 rfl ?_
  refine aw_bipush (npc := 5) (v := 62) (by decide) dX8_putsBack_3 rfl ?_
  refine aw_icmp_ge (npc := 8) (tgt := 26) dX8_putsBack_5 rfl (by decide) (fun hc => absurd hc (by decide)) (fun _ => ?_)
  refine aw_aload_n (npc := 9) rfl dX8_putsBack_8 rfl ?_
  refine aw_get (npc := 12) dX8_putsBack_9 rfl kf_X8_9 (am_ne (by decide) g69) rfl ?_
  refine aw_iload_n (npc := 13) rfl dX8_putsBack_12 rfl ?_
  refine aw_aload_n (npc := 14) rfl dX8_putsBack_13 rfl ?_
  refine aw_get (npc := 17) dX8_putsBack_14 rfl kf_X8_26 (am_ne (by decide) g69) rfl ?_
  refine aw_iload_n (npc := 18) rfl dX8_putsBack_17 rfl ?_
  refine aw_iald (npc := 19) (x := 0) (j := 55) dX8_putsBack_18 rfl (am_ne (by decide) g74) ⟨by decide, by decide⟩ rfl ?_
  refine aw_iast (npc := 20) (j := 55) dX8_putsBack_19 rfl am_eq ⟨by decide, by decide⟩ (Nat.le_of_ble_eq_true rfl) (show _ = am_up _ 70 (.inl (0, nw 0 0 5 5 5 5)) from am_uu) ?_
  refine aw_iinc (npc := 23) (v := 56) (L' := [some (.ref 69), some (.int 56)]) dX8_putsBack_20 rfl rfl (by decide) (by decide) rfl rfl ?_
  refine aw_goto (npc := 2) dX8_putsBack_23 (by decide) ?_
  refine aw_iload_n (npc := 3) rfl dX8_putsBack_2 rfl ?_
  refine aw_bipush (npc := 5) (v := 62) (by decide) dX8_putsBack_3 rfl ?_
  refine aw_icmp_ge (npc := 8) (tgt := 26) dX8_putsBack_5 rfl (by decide) (fun hc => absurd hc (by decide)) (fun _ => ?_)
  refine aw_aload_n (npc := 9) rfl dX8_putsBack_8 rfl ?_
  refine aw_get (npc := 12) dX8_putsBack_9 rfl kf_X8_9 (am_ne (by decide) g69) rfl ?_
  refine aw_iload_n (npc := 13) rfl dX8_putsBack_12 rfl ?_
  refine aw_aload_n (npc := 14) rfl dX8_putsBack_13 rfl ?_
  refine aw_get (npc := 17) dX8_putsBack_14 rfl kf_X8_26 (am_ne (by decide) g69) rfl ?_
  refine aw_iload_n (npc := 18) rfl dX8_putsBack_17 rfl ?_
  refine aw_iald (npc := 19) (x := 0) (j := 56) dX8_putsBack_18 rfl (am_ne (by decide) g74) ⟨by decide, by decide⟩ rfl ?_
  refine aw_iast (npc := 20) (j := 56) dX8_putsBack_19 rfl am_eq ⟨by decide, by decide⟩ (Nat.le_of_ble_eq_true rfl) (show _ = am_up _ 70 (.inl (0, nw 0 0 5 5 5 5)) from am_uu) ?_
  refine aw_iinc (npc := 23) (v := 57) (L' := [some (.ref 69), some (.int 57)]) dX8_putsBack_20 rfl rfl (by decide) (by decide) rfl rfl ?_
  refine aw_goto (npc := 2) dX8_putsBack_23 (by decide) ?_
  refine aw_iload_n (npc := 3) rfl dX8_putsBack_2 rfl ?_
  refine aw_bipush (npc := 5) (v := 62) (by decide) dX8_putsBack_3 rfl ?_
  refine aw_icmp_ge (npc := 8) (tgt := 26) dX8_putsBack_5 rfl (by decide) (fun hc => absurd hc (by decide)) (fun _ => ?_)
  refine aw_aload_n (npc := 9) rfl dX8_putsBack_8 rfl ?_
  refine aw_get (npc := 12) dX8_putsBack_9 rfl kf_X8_9 (am_ne (by decide) g69) rfl ?_
  refine aw_iload_n (npc := 13) rfl dX8_putsBack_12 rfl ?_
  refine aw_aload_n (npc := 14) rfl dX8_putsBack_13 rfl ?_
  refine aw_get (npc := 17) dX8_putsBack_14 rfl kf_X8_26 (am_ne (by decide) g69) rfl ?_
  refine aw_iload_n (npc := 18) rfl dX8_putsBack_17 rfl ?_
  refine aw_iald (npc := 19) (x := 0) (j := 57) dX8_putsBack_18 rfl (am_ne (by decide) g74) ⟨by decide, by decide⟩ rfl ?_
  refine aw_iast (npc := 20) (j := 57) dX8_putsBack_19 rfl am_eq ⟨by decide, by decide⟩ (Nat.le_of_ble_eq_true rfl) (show _ = am_up _ 70 (.inl (0, nw 0 0 5 5 5 5)) from am_uu) ?_
  refine aw_iinc (npc := 23) (v := 58) (L' := [some (.ref 69), some (.int 58)]) dX8_putsBack_20 rfl rfl (by decide) (by decide) rfl rfl ?_
  refine aw_goto (npc := 2) dX8_putsBack_23 (by decide) ?_
  refine aw_iload_n (npc := 3) rfl dX8_putsBack_2 rfl ?_
  refine aw_bipush (npc := 5) (v := 62) (by decide) dX8_putsBack_3 rfl ?_
  refine aw_icmp_ge (npc := 8) (tgt := 26) dX8_putsBack_5 rfl (by decide) (fun hc => absurd hc (by decide)) (fun _ => ?_)
  refine aw_aload_n (npc := 9) rfl dX8_putsBack_8 rfl ?_
  refine aw_get (npc := 12) dX8_putsBack_9 rfl kf_X8_9 (am_ne (by decide) g69) rfl ?_
  refine aw_iload_n (npc := 13) rfl dX8_putsBack_12 rfl ?_
  refine aw_aload_n (npc := 14) rfl dX8_putsBack_13 rfl ?_
  refine aw_get (npc := 17) dX8_putsBack_14 rfl kf_X8_26 (am_ne (by decide) g69) rfl ?_
  refine aw_iload_n (npc := 18) rfl dX8_putsBack_17 rfl ?_
  refine aw_iald (npc := 19) (x := 0) (j := 58) dX8_putsBack_18 rfl (am_ne (by decide) g74) ⟨by decide, by decide⟩ rfl ?_
  refine aw_iast (npc := 20) (j := 58) dX8_putsBack_19 rfl am_eq ⟨by decide, by decide⟩ (Nat.le_of_ble_eq_true rfl) (show _ = am_up _ 70 (.inl (0, nw 0 0 5 5 5 5)) from am_uu) ?_
  refine aw_iinc (npc := 23) (v := 59) (L' := [some (.ref 69), some (.int 59)]) dX8_putsBack_20 rfl rfl (by decide) (by decide) rfl rfl ?_
  refine aw_goto (npc := 2) dX8_putsBack_23 (by decide) ?_
  refine aw_iload_n (npc := 3) rfl dX8_putsBack_2 rfl ?_
  refine aw_bipush (npc := 5) (v := 62) (by decide) dX8_putsBack_3 rfl ?_
  refine aw_icmp_ge (npc := 8) (tgt := 26) dX8_putsBack_5 rfl (by decide) (fun hc => absurd hc (by decide)) (fun _ => ?_)
  refine aw_aload_n (npc := 9) rfl dX8_putsBack_8 rfl ?_
  refine aw_get (npc := 12) dX8_putsBack_9 rfl kf_X8_9 (am_ne (by decide) g69) rfl ?_
  refine aw_iload_n (npc := 13) rfl dX8_putsBack_12 rfl ?_
  refine aw_aload_n (npc := 14) rfl dX8_putsBack_13 rfl ?_
  refine aw_get (npc := 17) dX8_putsBack_14 rfl kf_X8_26 (am_ne (by decide) g69) rfl ?_
  refine aw_iload_n (npc := 18) rfl dX8_putsBack_17 rfl ?_
  refine aw_iald (npc := 19) (x := 0) (j := 59) dX8_putsBack_18 rfl (am_ne (by decide) g74) ⟨by decide, by decide⟩ rfl ?_
  refine aw_iast (npc := 20) (j := 59) dX8_putsBack_19 rfl am_eq ⟨by decide, by decide⟩ (Nat.le_of_ble_eq_true rfl) (show _ = am_up _ 70 (.inl (0, nw 0 0 5 5 5 5)) from am_uu) ?_
  refine aw_iinc (npc := 23) (v := 60) (L' := [some (.ref 69), some (.int 60)]) dX8_putsBack_20 rfl rfl (by decide) (by decide) rfl rfl ?_
  refine aw_goto (npc := 2) dX8_putsBack_23 (by decide) ?_
  refine aw_iload_n (npc := 3) rfl dX8_putsBack_2 rfl ?_
  refine aw_bipush (npc := 5) (v := 62) (by decide) dX8_putsBack_3 rfl ?_
  refine aw_icmp_ge (npc := 8) (tgt := 26) dX8_putsBack_5 rfl (by decide) (fun hc => absurd hc (by decide)) (fun _ => ?_)
  refine aw_aload_n (npc := 9) rfl dX8_putsBack_8 rfl ?_
  refine aw_get (npc := 12) dX8_putsBack_9 rfl kf_X8_9 (am_ne (by decide) g69) rfl ?_
  refine aw_iload_n (npc := 13) rfl dX8_putsBack_12 rfl ?_
  refine aw_aload_n (npc := 14) rfl dX8_putsBack_13 rfl ?_
  refine aw_get (npc := 17) dX8_putsBack_14 rfl kf_X8_26 (am_ne (by decide) g69) rfl ?_
  refine aw_iload_n (npc := 18) rfl dX8_putsBack_17 rfl ?_
  refine aw_iald (npc := 19) (x := 0) (j := 60) dX8_putsBack_18 rfl (am_ne (by decide) g74) ⟨by decide, by decide⟩ rfl ?_
  refine aw_iast (npc := 20) (j := 60) dX8_putsBack_19 rfl am_eq ⟨by decide, by decide⟩ (Nat.le_of_ble_eq_true rfl) (show _ = am_up _ 70 (.inl (0, nw 0 0 5 5 5 5)) from am_uu) ?_
  refine aw_iinc (npc := 23) (v := 61) (L' := [some (.ref 69), some (.int 61)]) dX8_putsBack_20 rfl rfl (by decide) (by decide) rfl rfl ?_
  refine aw_goto (npc := 2) dX8_putsBack_23 (by decide) ?_
  refine aw_iload_n (npc := 3) rfl dX8_putsBack_2 rfl ?_
  refine aw_bipush (npc := 5) (v := 62) (by decide) dX8_putsBack_3 rfl ?_
  refine aw_icmp_ge (npc := 8) (tgt := 26) dX8_putsBack_5 rfl (by decide) (fun hc => absurd hc (by decide)) (fun _ => ?_)
  refine aw_aload_n (npc := 9) rfl dX8_putsBack_8 rfl ?_
  refine aw_get (npc := 12) dX8_putsBack_9 rfl kf_X8_9 (am_ne (by decide) g69) rfl ?_
  refine aw_iload_n (npc := 13) rfl dX8_putsBack_12 rfl ?_
  refine aw_aload_n (npc := 14) rfl dX8_putsBack_13 rfl ?_
  refine aw_get (npc := 17) dX8_putsBack_14 rfl kf_X8_26 (am_ne (by decide) g69) rfl ?_
  refine aw_iload_n (npc := 18) rfl dX8_putsBack_17 rfl ?_
  refine aw_iald (npc := 19) (x := 0) (j := 61) dX8_putsBack_18 rfl (am_ne (by decide) g74) ⟨by decide, by decide⟩ rfl ?_
  refine aw_iast (npc := 20) (j := 61) dX8_putsBack_19 rfl am_eq ⟨by decide, by decide⟩ (Nat.le_of_ble_eq_true rfl) (show _ = am_up _ 70 (.inl (0, nw 0 0 5 5 5 5)) from am_uu) ?_
  refine aw_iinc (npc := 23) (v := 62) (L' := [some (.ref 69), some (.int 62)]) dX8_putsBack_20 rfl rfl (by decide) (by decide) rfl rfl ?_
  refine aw_goto (npc := 2) dX8_putsBack_23 (by decide) ?_
  refine aw_iload_n (npc := 3) rfl dX8_putsBack_2 rfl ?_
  refine aw_bipush (npc := 5) (v := 62) (by decide) dX8_putsBack_3 rfl ?_
  refine aw_icmp_ge (npc := 8) (tgt := 26) dX8_putsBack_5 rfl (by decide) (fun _ => ?_) (fun hc => absurd (by decide) hc)
  refine aw_aload_n (npc := 27) rfl dX8_putsBack_26 rfl ?_
  refine aw_iconst (npc := 28) (v := -1) (by decide) dX8_putsBack_27 rfl ?_
  refine aw_put (npc := 31) dX8_putsBack_28 rfl kf_X8_19 (am_ne (by decide) g69) (Nat.le_of_ble_eq_true rfl) (am_ok_int _) rfl ?_
  refine aw_vret rfl dX8_putsBack_31 ?_
  exact hq _ ⟨am_eq, (am_ne (by decide) am_eq), (am_ne (by decide) (am_ne (by decide) g73)), (am_ne (by decide) (am_ne (by decide) g74))⟩
set_option maxHeartbeats 40000000 in
set_option maxRecDepth 100000 in
theorem p_standAs {X : List Int32} {d rc rs nn : Nat} {Q : am_Q} {si hot hv pt s0 s1 s2 s3 : Int32} {V : Nat} (hV : V < 10000) {h : am_H} (F : fm si hot hv pt s0 s1 s2 s3 nb h) (hq : ∀ h9, fm si hot hv pt (nI ((((V / 10) / 10) / 10) % 10)) (nI (((V / 10) / 10) % 10)) (nI ((V / 10) % 10)) (nI (V % 10)) nb h9 → Q none nn h9) : AW X mX8_standAs (d + 2) rc rs 0 [some (.ref 69), some (.int (nI V)), none, none] [] nn h Q := by
  obtain ⟨g69, g70, g73, g74⟩ := F
  refine aw_iload_n (npc := 1) rfl dX8_standAs_0 rfl ?_
  refine aw_istore_n (npc := 2) (L' := [some (.ref 69), some (.int (nI V)), some (.int (nI V)), none]) dX8_standAs_1 rfl (by decide) rfl rfl ?_
  refine aw_iconst (npc := 3) (v := 3) (by decide) dX8_standAs_2 rfl ?_
  refine aw_istore_n (npc := 4) (L' := [some (.ref 69), some (.int (nI V)), some (.int (nI V)), some (.int 3)]) dX8_standAs_3 rfl (by decide) rfl rfl ?_
  refine aw_iload_n (npc := 5) rfl dX8_standAs_4 rfl ?_
  refine aw_if_lt (npc := 8) (tgt := 32) dX8_standAs_5 rfl (by decide) (fun hc => absurd hc (by decide)) (fun _ => ?_)
  refine aw_aload_n (npc := 9) rfl dX8_standAs_8 rfl ?_
  refine aw_get (npc := 12) dX8_standAs_9 rfl kf_X8_9 g69 rfl ?_
  refine aw_bipush (npc := 14) (v := 8) (by decide) dX8_standAs_12 rfl ?_
  refine aw_iload_n (npc := 15) rfl dX8_standAs_14 rfl ?_
  refine aw_iaddV (npc := 16) (v := 11) dX8_standAs_15 rfl (by decide) ?_
  refine aw_iload_n (npc := 17) rfl dX8_standAs_16 rfl ?_
  refine aw_bipush (npc := 19) (v := 10) (by decide) dX8_standAs_17 rfl ?_
  refine aw_iremV (npc := 20) (v := nI (V % 10)) (by decide) dX8_standAs_19 rfl (pk_rem (a := V) (d := 10) (by omega) (by omega) (by omega)) ?_
  refine aw_iast (npc := 21) (j := 11) dX8_standAs_20 rfl g70 ⟨by decide, by decide⟩ (Nat.le_of_ble_eq_true rfl) (show _ = am_up _ 70 (.inl (0, nw hv pt s0 s1 s2 (nI (V % 10)))) from rfl) ?_
  refine aw_iload_n (npc := 22) rfl dX8_standAs_21 rfl ?_
  refine aw_bipush (npc := 24) (v := 10) (by decide) dX8_standAs_22 rfl ?_
  refine aw_idivV (npc := 25) (v := nI (V / 10)) (by decide) dX8_standAs_24 rfl (pk_div (a := V) (d := 10) (by omega) (by omega) (by omega)) ?_
  refine aw_istore_n (npc := 26) (L' := [some (.ref 69), some (.int (nI V)), some (.int (nI (V / 10))), some (.int 3)]) dX8_standAs_25 rfl (by decide) rfl rfl ?_
  refine aw_iinc (npc := 29) (v := 2) (L' := [some (.ref 69), some (.int (nI V)), some (.int (nI (V / 10))), some (.int 2)]) dX8_standAs_26 rfl rfl (by decide) (by decide) rfl rfl ?_
  refine aw_goto (npc := 4) dX8_standAs_29 (by decide) ?_
  refine aw_iload_n (npc := 5) rfl dX8_standAs_4 rfl ?_
  refine aw_if_lt (npc := 8) (tgt := 32) dX8_standAs_5 rfl (by decide) (fun hc => absurd hc (by decide)) (fun _ => ?_)
  refine aw_aload_n (npc := 9) rfl dX8_standAs_8 rfl ?_
  refine aw_get (npc := 12) dX8_standAs_9 rfl kf_X8_9 (am_ne (by decide) g69) rfl ?_
  refine aw_bipush (npc := 14) (v := 8) (by decide) dX8_standAs_12 rfl ?_
  refine aw_iload_n (npc := 15) rfl dX8_standAs_14 rfl ?_
  refine aw_iaddV (npc := 16) (v := 10) dX8_standAs_15 rfl (by decide) ?_
  refine aw_iload_n (npc := 17) rfl dX8_standAs_16 rfl ?_
  refine aw_bipush (npc := 19) (v := 10) (by decide) dX8_standAs_17 rfl ?_
  refine aw_iremV (npc := 20) (v := nI ((V / 10) % 10)) (by decide) dX8_standAs_19 rfl (pk_rem (a := (V / 10)) (d := 10) (by omega) (by omega) (by omega)) ?_
  refine aw_iast (npc := 21) (j := 10) dX8_standAs_20 rfl am_eq ⟨by decide, by decide⟩ (Nat.le_of_ble_eq_true rfl) (show _ = am_up _ 70 (.inl (0, nw hv pt s0 s1 (nI ((V / 10) % 10)) (nI (V % 10)))) from am_uu) ?_
  refine aw_iload_n (npc := 22) rfl dX8_standAs_21 rfl ?_
  refine aw_bipush (npc := 24) (v := 10) (by decide) dX8_standAs_22 rfl ?_
  refine aw_idivV (npc := 25) (v := nI ((V / 10) / 10)) (by decide) dX8_standAs_24 rfl (pk_div (a := (V / 10)) (d := 10) (by omega) (by omega) (by omega)) ?_
  refine aw_istore_n (npc := 26) (L' := [some (.ref 69), some (.int (nI V)), some (.int (nI ((V / 10) / 10))), some (.int 2)]) dX8_standAs_25 rfl (by decide) rfl rfl ?_
  refine aw_iinc (npc := 29) (v := 1) (L' := [some (.ref 69), some (.int (nI V)), some (.int (nI ((V / 10) / 10))), some (.int 1)]) dX8_standAs_26 rfl rfl (by decide) (by decide) rfl rfl ?_
  refine aw_goto (npc := 4) dX8_standAs_29 (by decide) ?_
  refine aw_iload_n (npc := 5) rfl dX8_standAs_4 rfl ?_
  refine aw_if_lt (npc := 8) (tgt := 32) dX8_standAs_5 rfl (by decide) (fun hc => absurd hc (by decide)) (fun _ => ?_)
  refine aw_aload_n (npc := 9) rfl dX8_standAs_8 rfl ?_
  refine aw_get (npc := 12) dX8_standAs_9 rfl kf_X8_9 (am_ne (by decide) g69) rfl ?_
  refine aw_bipush (npc := 14) (v := 8) (by decide) dX8_standAs_12 rfl ?_
  refine aw_iload_n (npc := 15) rfl dX8_standAs_14 rfl ?_
  refine aw_iaddV (npc := 16) (v := 9) dX8_standAs_15 rfl (by decide) ?_
  refine aw_iload_n (npc := 17) rfl dX8_standAs_16 rfl ?_
  refine aw_bipush (npc := 19) (v := 10) (by decide) dX8_standAs_17 rfl ?_
  refine aw_iremV (npc := 20) (v := nI (((V / 10) / 10) % 10)) (by decide) dX8_standAs_19 rfl (pk_rem (a := ((V / 10) / 10)) (d := 10) (by omega) (by omega) (by omega)) ?_
  refine aw_iast (npc := 21) (j := 9) dX8_standAs_20 rfl am_eq ⟨by decide, by decide⟩ (Nat.le_of_ble_eq_true rfl) (show _ = am_up _ 70 (.inl (0, nw hv pt s0 (nI (((V / 10) / 10) % 10)) (nI ((V / 10) % 10)) (nI (V % 10)))) from am_uu) ?_
  refine aw_iload_n (npc := 22) rfl dX8_standAs_21 rfl ?_
  refine aw_bipush (npc := 24) (v := 10) (by decide) dX8_standAs_22 rfl ?_
  refine aw_idivV (npc := 25) (v := nI (((V / 10) / 10) / 10)) (by decide) dX8_standAs_24 rfl (pk_div (a := ((V / 10) / 10)) (d := 10) (by omega) (by omega) (by omega)) ?_
  refine aw_istore_n (npc := 26) (L' := [some (.ref 69), some (.int (nI V)), some (.int (nI (((V / 10) / 10) / 10))), some (.int 1)]) dX8_standAs_25 rfl (by decide) rfl rfl ?_
  refine aw_iinc (npc := 29) (v := 0) (L' := [some (.ref 69), some (.int (nI V)), some (.int (nI (((V / 10) / 10) / 10))), some (.int 0)]) dX8_standAs_26 rfl rfl (by decide) (by decide) rfl rfl ?_
  refine aw_goto (npc := 4) dX8_standAs_29 (by decide) ?_
  refine aw_iload_n (npc := 5) rfl dX8_standAs_4 rfl ?_
  refine aw_if_lt (npc := 8) (tgt := 32) dX8_standAs_5 rfl (by decide) (fun hc => absurd hc (by decide)) (fun _ => ?_)
  refine aw_aload_n (npc := 9) rfl dX8_standAs_8 rfl ?_
  refine aw_get (npc := 12) dX8_standAs_9 rfl kf_X8_9 (am_ne (by decide) g69) rfl ?_
  refine aw_bipush (npc := 14) (v := 8) (by decide) dX8_standAs_12 rfl ?_
  refine aw_iload_n (npc := 15) rfl dX8_standAs_14 rfl ?_
  refine aw_iaddV (npc := 16) (v := 8) dX8_standAs_15 rfl (by decide) ?_
  refine aw_iload_n (npc := 17) rfl dX8_standAs_16 rfl ?_
  refine aw_bipush (npc := 19) (v := 10) (by decide) dX8_standAs_17 rfl ?_
  refine aw_iremV (npc := 20) (v := nI ((((V / 10) / 10) / 10) % 10)) (by decide) dX8_standAs_19 rfl (pk_rem (a := (((V / 10) / 10) / 10)) (d := 10) (by omega) (by omega) (by omega)) ?_
  refine aw_iast (npc := 21) (j := 8) dX8_standAs_20 rfl am_eq ⟨by decide, by decide⟩ (Nat.le_of_ble_eq_true rfl) (show _ = am_up _ 70 (.inl (0, nw hv pt (nI ((((V / 10) / 10) / 10) % 10)) (nI (((V / 10) / 10) % 10)) (nI ((V / 10) % 10)) (nI (V % 10)))) from am_uu) ?_
  refine aw_iload_n (npc := 22) rfl dX8_standAs_21 rfl ?_
  refine aw_bipush (npc := 24) (v := 10) (by decide) dX8_standAs_22 rfl ?_
  refine aw_idivV (npc := 25) (v := nI ((((V / 10) / 10) / 10) / 10)) (by decide) dX8_standAs_24 rfl (pk_div (a := (((V / 10) / 10) / 10)) (d := 10) (by omega) (by omega) (by omega)) ?_
  refine aw_istore_n (npc := 26) (L' := [some (.ref 69), some (.int (nI V)), some (.int (nI ((((V / 10) / 10) / 10) / 10))), some (.int 0)]) dX8_standAs_25 rfl (by decide) rfl rfl ?_
  refine aw_iinc (npc := 29) (v := (-1)) (L' := [some (.ref 69), some (.int (nI V)), some (.int (nI ((((V / 10) / 10) / 10) / 10))), some (.int (-1))]) dX8_standAs_26 rfl rfl (by decide) (by decide) rfl rfl ?_
  refine aw_goto (npc := 4) dX8_standAs_29 (by decide) ?_
  refine aw_iload_n (npc := 5) rfl dX8_standAs_4 rfl ?_
  refine aw_if_lt (npc := 8) (tgt := 32) dX8_standAs_5 rfl (by decide) (fun _ => ?_) (fun hc => absurd (by decide) hc)
  refine aw_vret rfl dX8_standAs_32 ?_
  exact hq _ ⟨(am_ne (by decide) g69), am_eq, (am_ne (by decide) g73), (am_ne (by decide) g74)⟩
