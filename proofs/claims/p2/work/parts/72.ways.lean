set_option maxHeartbeats 4000000 in
set_option maxRecDepth 100000 in
theorem c_start {X : List Int32} {d rc rs n : Nat} {Q : am_Q} {h : am_H} {N : Nat → Int32} {tx : List Value} {lk mv : Nat → Int32} {a0 a1 : Int32} {wy : Nat → Int32} (F : QR 1 N tx lk mv h) (Y : WY a0 a1 wy h) (hq : ∀ h9, WV N 0 h9 → am_fp (fun k => k < 37 ∨ 39 ≤ k) h9 h → Q none n h9) : AW X mX6_start (d + 3) rc rs 0 [some (.ref 37), some (.ref 1), none] [] n h Q := by
  refine aw_aload_n (npc := 1) rfl dX6_start_0 rfl ?_
  refine aw_iconst (npc := 2) (v := 0) (by decide) dX6_start_1 rfl ?_
  refine aw_put (npc := 5) dX6_start_2 rfl kf_X6_15 Y.1 (Nat.le_of_ble_eq_true rfl) (am_ok_int _) rfl ?_
  have Y1 := wy_p1 (v := 0) Y
  have F2 := qr_out (a := 37) (c := .inr (6, ([.ref 38, .int a0, .int a1] : List Value).set 1 (.int 0))) (by omega) F
  refine aw_aload_n (npc := 6) rfl dX6_start_5 rfl ?_
  refine aw_iconst (npc := 7) (v := 0) (by decide) dX6_start_6 rfl ?_
  refine aw_put (npc := 10) dX6_start_7 rfl kf_X6_19 Y1.1 (Nat.le_of_ble_eq_true rfl) (am_ok_int _) rfl ?_
  have Y3 := wy_p2 (v := 0) Y1
  have F4 := qr_out (a := 37) (c := .inr (6, ([.ref 38, .int 0, .int a1] : List Value).set 2 (.int 0))) (by omega) F2
  refine aw_iconst (npc := 11) (v := 0) (by decide) dX6_start_10 rfl ?_
  refine aw_istore_n (npc := 12) (L' := [some (.ref 37), some (.ref 1), some (.int 0)]) dX6_start_11 rfl (by decide) rfl rfl ?_
  refine aw_iload_n (npc := 13) rfl dX6_start_12 rfl ?_
  refine aw_iconst (npc := 14) (v := 4) (by decide) dX6_start_13 rfl ?_
  refine aw_icmp_ge (npc := 17) (tgt := 52) dX6_start_14 rfl (by decide) (fun hc => absurd hc (by decide)) (fun _ => ?_)
  refine aw_aload_n (npc := 18) rfl dX6_start_17 rfl ?_
  refine aw_get (npc := 21) dX6_start_18 rfl kf_X6_9 Y3.1 rfl ?_
  refine aw_iload_n (npc := 22) rfl dX6_start_21 rfl ?_
  refine aw_iconst (npc := 23) (v := 0) (by decide) dX6_start_22 rfl ?_
  refine aw_iast (npc := 24) (j := 0) dX6_start_23 rfl Y3.2 ⟨by decide, by decide⟩ (by rw [tl_len]; omega) rfl ?_
  have Y5 := wy_set (j := 0) (v := 0) Y3
  have F6 := qr_out (a := 38) (c := .inl (0, (tl 4 wy).set 0 0)) (by omega) F4
  refine aw_aload_n (npc := 25) rfl dX6_start_24 rfl ?_
  refine aw_dup (npc := 26) rfl dX6_start_25 rfl ?_
  refine aw_get (npc := 29) dX6_start_26 rfl kf_X6_19 Y5.1 rfl ?_
  refine aw_bipush (npc := 31) (v := 9) (by decide) dX6_start_29 rfl ?_
  refine aw_aload_n (npc := 32) rfl dX6_start_31 rfl ?_
  refine aw_get (npc := 35) dX6_start_32 rfl kf_X6_36 F6.1 rfl ?_
  refine aw_iconst (npc := 36) (v := 1) (by decide) dX6_start_35 rfl ?_
  refine aw_iload_n (npc := 37) rfl dX6_start_36 rfl ?_
  refine aw_callSN (npc := 40) (N := mX7_carePlace) (mc := 0) (ms := 0) (A := [.int 1, .int 0]) (S := [.ref 3, .int 9, .int 0, .ref 37]) (L0 := [some (.int 1), some (.int 0)]) dX6_start_37 rfl km_X7_carePlace kk_X6_41 rfl ⟨rfl, by decide⟩ rfl (Nat.le_of_ble_eq_true rfl) (Nat.zero_add _) (Nat.zero_add _) rfl ?_
  refine aw_iload_n (npc := 1) rfl dX7_carePlace_0 rfl ?_
  refine aw_iconst (npc := 2) (v := 4) (by decide) dX7_carePlace_1 rfl ?_
  refine aw_imulV (npc := 3) (v := 4) dX7_carePlace_2 rfl (by decide) ?_
  refine aw_iload_n (npc := 4) rfl dX7_carePlace_3 rfl ?_
  refine aw_iaddV (npc := 5) (v := 4) dX7_carePlace_4 rfl (by decide) ?_
  refine aw_iret rfl dX7_carePlace_5 ?_
  refine aw_re (S' := [.int 4, .ref 3, .int 9, .int 0, .ref 37]) rfl ?_
  refine aw_iald (npc := 41) (x := N 16) (j := 4) dX6_start_40 rfl F6.2.2.1 ⟨by decide, by decide⟩ (tl_at (by omega)) ?_
  refine aw_imul (npc := 42) dX6_start_41 rfl ?_
  refine aw_iadd (npc := 43) dX6_start_42 rfl ?_
  refine aw_put (npc := 46) dX6_start_43 rfl kf_X6_19 Y5.1 (Nat.le_of_ble_eq_true rfl) (am_ok_int _) rfl ?_
  have Y7 := wy_p2 (v := 0 + (9 * (N 16))) Y5
  have F8 := qr_out (a := 37) (c := .inr (6, ([.ref 38, .int 0, .int 0] : List Value).set 2 (.int (0 + (9 * (N 16)))))) (by omega) F6
  refine aw_iinc (npc := 49) (v := 1) (L' := [some (.ref 37), some (.ref 1), some (.int 1)]) dX6_start_46 rfl rfl (by decide) (by decide) rfl rfl ?_
  refine aw_goto (npc := 12) dX6_start_49 (by decide) ?_
  refine aw_iload_n (npc := 13) rfl dX6_start_12 rfl ?_
  refine aw_iconst (npc := 14) (v := 4) (by decide) dX6_start_13 rfl ?_
  refine aw_icmp_ge (npc := 17) (tgt := 52) dX6_start_14 rfl (by decide) (fun hc => absurd hc (by decide)) (fun _ => ?_)
  refine aw_aload_n (npc := 18) rfl dX6_start_17 rfl ?_
  refine aw_get (npc := 21) dX6_start_18 rfl kf_X6_9 Y7.1 rfl ?_
  refine aw_iload_n (npc := 22) rfl dX6_start_21 rfl ?_
  refine aw_iconst (npc := 23) (v := 0) (by decide) dX6_start_22 rfl ?_
  refine aw_iast (npc := 24) (j := 1) dX6_start_23 rfl Y7.2 ⟨by decide, by decide⟩ (by rw [tl_len]; omega) rfl ?_
  have Y9 := wy_set (j := 1) (v := 0) Y7
  have F10 := qr_out (a := 38) (c := .inl (0, (tl 4 (upd wy 0 0)).set 1 0)) (by omega) F8
  refine aw_aload_n (npc := 25) rfl dX6_start_24 rfl ?_
  refine aw_dup (npc := 26) rfl dX6_start_25 rfl ?_
  refine aw_get (npc := 29) dX6_start_26 rfl kf_X6_19 Y9.1 rfl ?_
  refine aw_bipush (npc := 31) (v := 9) (by decide) dX6_start_29 rfl ?_
  refine aw_aload_n (npc := 32) rfl dX6_start_31 rfl ?_
  refine aw_get (npc := 35) dX6_start_32 rfl kf_X6_36 F10.1 rfl ?_
  refine aw_iconst (npc := 36) (v := 1) (by decide) dX6_start_35 rfl ?_
  refine aw_iload_n (npc := 37) rfl dX6_start_36 rfl ?_
  refine aw_callSN (npc := 40) (N := mX7_carePlace) (mc := 0) (ms := 0) (A := [.int 1, .int 1]) (S := [.ref 3, .int 9, .int (0 + (9 * (N 16))), .ref 37]) (L0 := [some (.int 1), some (.int 1)]) dX6_start_37 rfl km_X7_carePlace kk_X6_41 rfl ⟨rfl, by decide⟩ rfl (Nat.le_of_ble_eq_true rfl) (Nat.zero_add _) (Nat.zero_add _) rfl ?_
  refine aw_iload_n (npc := 1) rfl dX7_carePlace_0 rfl ?_
  refine aw_iconst (npc := 2) (v := 4) (by decide) dX7_carePlace_1 rfl ?_
  refine aw_imulV (npc := 3) (v := 4) dX7_carePlace_2 rfl (by decide) ?_
  refine aw_iload_n (npc := 4) rfl dX7_carePlace_3 rfl ?_
  refine aw_iaddV (npc := 5) (v := 5) dX7_carePlace_4 rfl (by decide) ?_
  refine aw_iret rfl dX7_carePlace_5 ?_
  refine aw_re (S' := [.int 5, .ref 3, .int 9, .int (0 + (9 * (N 16))), .ref 37]) rfl ?_
  refine aw_iald (npc := 41) (x := N 17) (j := 5) dX6_start_40 rfl F10.2.2.1 ⟨by decide, by decide⟩ (tl_at (by omega)) ?_
  refine aw_imul (npc := 42) dX6_start_41 rfl ?_
  refine aw_iadd (npc := 43) dX6_start_42 rfl ?_
  refine aw_put (npc := 46) dX6_start_43 rfl kf_X6_19 Y9.1 (Nat.le_of_ble_eq_true rfl) (am_ok_int _) rfl ?_
  have Y11 := wy_p2 (v := (0 + (9 * (N 16))) + (9 * (N 17))) Y9
  have F12 := qr_out (a := 37) (c := .inr (6, ([.ref 38, .int 0, .int (0 + (9 * (N 16)))] : List Value).set 2 (.int ((0 + (9 * (N 16))) + (9 * (N 17)))))) (by omega) F10
  refine aw_iinc (npc := 49) (v := 2) (L' := [some (.ref 37), some (.ref 1), some (.int 2)]) dX6_start_46 rfl rfl (by decide) (by decide) rfl rfl ?_
  refine aw_goto (npc := 12) dX6_start_49 (by decide) ?_
  refine aw_iload_n (npc := 13) rfl dX6_start_12 rfl ?_
  refine aw_iconst (npc := 14) (v := 4) (by decide) dX6_start_13 rfl ?_
  refine aw_icmp_ge (npc := 17) (tgt := 52) dX6_start_14 rfl (by decide) (fun hc => absurd hc (by decide)) (fun _ => ?_)
  refine aw_aload_n (npc := 18) rfl dX6_start_17 rfl ?_
  refine aw_get (npc := 21) dX6_start_18 rfl kf_X6_9 Y11.1 rfl ?_
  refine aw_iload_n (npc := 22) rfl dX6_start_21 rfl ?_
  refine aw_iconst (npc := 23) (v := 0) (by decide) dX6_start_22 rfl ?_
  refine aw_iast (npc := 24) (j := 2) dX6_start_23 rfl Y11.2 ⟨by decide, by decide⟩ (by rw [tl_len]; omega) rfl ?_
  have Y13 := wy_set (j := 2) (v := 0) Y11
  have F14 := qr_out (a := 38) (c := .inl (0, (tl 4 (upd (upd wy 0 0) 1 0)).set 2 0)) (by omega) F12
  refine aw_aload_n (npc := 25) rfl dX6_start_24 rfl ?_
  refine aw_dup (npc := 26) rfl dX6_start_25 rfl ?_
  refine aw_get (npc := 29) dX6_start_26 rfl kf_X6_19 Y13.1 rfl ?_
  refine aw_bipush (npc := 31) (v := 9) (by decide) dX6_start_29 rfl ?_
  refine aw_aload_n (npc := 32) rfl dX6_start_31 rfl ?_
  refine aw_get (npc := 35) dX6_start_32 rfl kf_X6_36 F14.1 rfl ?_
  refine aw_iconst (npc := 36) (v := 1) (by decide) dX6_start_35 rfl ?_
  refine aw_iload_n (npc := 37) rfl dX6_start_36 rfl ?_
  refine aw_callSN (npc := 40) (N := mX7_carePlace) (mc := 0) (ms := 0) (A := [.int 1, .int 2]) (S := [.ref 3, .int 9, .int ((0 + (9 * (N 16))) + (9 * (N 17))), .ref 37]) (L0 := [some (.int 1), some (.int 2)]) dX6_start_37 rfl km_X7_carePlace kk_X6_41 rfl ⟨rfl, by decide⟩ rfl (Nat.le_of_ble_eq_true rfl) (Nat.zero_add _) (Nat.zero_add _) rfl ?_
  refine aw_iload_n (npc := 1) rfl dX7_carePlace_0 rfl ?_
  refine aw_iconst (npc := 2) (v := 4) (by decide) dX7_carePlace_1 rfl ?_
  refine aw_imulV (npc := 3) (v := 4) dX7_carePlace_2 rfl (by decide) ?_
  refine aw_iload_n (npc := 4) rfl dX7_carePlace_3 rfl ?_
  refine aw_iaddV (npc := 5) (v := 6) dX7_carePlace_4 rfl (by decide) ?_
  refine aw_iret rfl dX7_carePlace_5 ?_
  refine aw_re (S' := [.int 6, .ref 3, .int 9, .int ((0 + (9 * (N 16))) + (9 * (N 17))), .ref 37]) rfl ?_
  refine aw_iald (npc := 41) (x := N 18) (j := 6) dX6_start_40 rfl F14.2.2.1 ⟨by decide, by decide⟩ (tl_at (by omega)) ?_
  refine aw_imul (npc := 42) dX6_start_41 rfl ?_
  refine aw_iadd (npc := 43) dX6_start_42 rfl ?_
  refine aw_put (npc := 46) dX6_start_43 rfl kf_X6_19 Y13.1 (Nat.le_of_ble_eq_true rfl) (am_ok_int _) rfl ?_
  have Y15 := wy_p2 (v := ((0 + (9 * (N 16))) + (9 * (N 17))) + (9 * (N 18))) Y13
  have F16 := qr_out (a := 37) (c := .inr (6, ([.ref 38, .int 0, .int ((0 + (9 * (N 16))) + (9 * (N 17)))] : List Value).set 2 (.int (((0 + (9 * (N 16))) + (9 * (N 17))) + (9 * (N 18)))))) (by omega) F14
  refine aw_iinc (npc := 49) (v := 3) (L' := [some (.ref 37), some (.ref 1), some (.int 3)]) dX6_start_46 rfl rfl (by decide) (by decide) rfl rfl ?_
  refine aw_goto (npc := 12) dX6_start_49 (by decide) ?_
  refine aw_iload_n (npc := 13) rfl dX6_start_12 rfl ?_
  refine aw_iconst (npc := 14) (v := 4) (by decide) dX6_start_13 rfl ?_
  refine aw_icmp_ge (npc := 17) (tgt := 52) dX6_start_14 rfl (by decide) (fun hc => absurd hc (by decide)) (fun _ => ?_)
  refine aw_aload_n (npc := 18) rfl dX6_start_17 rfl ?_
  refine aw_get (npc := 21) dX6_start_18 rfl kf_X6_9 Y15.1 rfl ?_
  refine aw_iload_n (npc := 22) rfl dX6_start_21 rfl ?_
  refine aw_iconst (npc := 23) (v := 0) (by decide) dX6_start_22 rfl ?_
  refine aw_iast (npc := 24) (j := 3) dX6_start_23 rfl Y15.2 ⟨by decide, by decide⟩ (by rw [tl_len]; omega) rfl ?_
  have Y17 := wy_set (j := 3) (v := 0) Y15
  have F18 := qr_out (a := 38) (c := .inl (0, (tl 4 (upd (upd (upd wy 0 0) 1 0) 2 0)).set 3 0)) (by omega) F16
  refine aw_aload_n (npc := 25) rfl dX6_start_24 rfl ?_
  refine aw_dup (npc := 26) rfl dX6_start_25 rfl ?_
  refine aw_get (npc := 29) dX6_start_26 rfl kf_X6_19 Y17.1 rfl ?_
  refine aw_bipush (npc := 31) (v := 9) (by decide) dX6_start_29 rfl ?_
  refine aw_aload_n (npc := 32) rfl dX6_start_31 rfl ?_
  refine aw_get (npc := 35) dX6_start_32 rfl kf_X6_36 F18.1 rfl ?_
  refine aw_iconst (npc := 36) (v := 1) (by decide) dX6_start_35 rfl ?_
  refine aw_iload_n (npc := 37) rfl dX6_start_36 rfl ?_
  refine aw_callSN (npc := 40) (N := mX7_carePlace) (mc := 0) (ms := 0) (A := [.int 1, .int 3]) (S := [.ref 3, .int 9, .int (((0 + (9 * (N 16))) + (9 * (N 17))) + (9 * (N 18))), .ref 37]) (L0 := [some (.int 1), some (.int 3)]) dX6_start_37 rfl km_X7_carePlace kk_X6_41 rfl ⟨rfl, by decide⟩ rfl (Nat.le_of_ble_eq_true rfl) (Nat.zero_add _) (Nat.zero_add _) rfl ?_
  refine aw_iload_n (npc := 1) rfl dX7_carePlace_0 rfl ?_
  refine aw_iconst (npc := 2) (v := 4) (by decide) dX7_carePlace_1 rfl ?_
  refine aw_imulV (npc := 3) (v := 4) dX7_carePlace_2 rfl (by decide) ?_
  refine aw_iload_n (npc := 4) rfl dX7_carePlace_3 rfl ?_
  refine aw_iaddV (npc := 5) (v := 7) dX7_carePlace_4 rfl (by decide) ?_
  refine aw_iret rfl dX7_carePlace_5 ?_
  refine aw_re (S' := [.int 7, .ref 3, .int 9, .int (((0 + (9 * (N 16))) + (9 * (N 17))) + (9 * (N 18))), .ref 37]) rfl ?_
  refine aw_iald (npc := 41) (x := N 19) (j := 7) dX6_start_40 rfl F18.2.2.1 ⟨by decide, by decide⟩ (tl_at (by omega)) ?_
  refine aw_imul (npc := 42) dX6_start_41 rfl ?_
  refine aw_iadd (npc := 43) dX6_start_42 rfl ?_
  refine aw_put (npc := 46) dX6_start_43 rfl kf_X6_19 Y17.1 (Nat.le_of_ble_eq_true rfl) (am_ok_int _) rfl ?_
  have Y19 := wy_p2 (v := (((0 + (9 * (N 16))) + (9 * (N 17))) + (9 * (N 18))) + (9 * (N 19))) Y17
  have F20 := qr_out (a := 37) (c := .inr (6, ([.ref 38, .int 0, .int (((0 + (9 * (N 16))) + (9 * (N 17))) + (9 * (N 18)))] : List Value).set 2 (.int ((((0 + (9 * (N 16))) + (9 * (N 17))) + (9 * (N 18))) + (9 * (N 19)))))) (by omega) F18
  refine aw_iinc (npc := 49) (v := 4) (L' := [some (.ref 37), some (.ref 1), some (.int 4)]) dX6_start_46 rfl rfl (by decide) (by decide) rfl rfl ?_
  refine aw_goto (npc := 12) dX6_start_49 (by decide) ?_
  refine aw_iload_n (npc := 13) rfl dX6_start_12 rfl ?_
  refine aw_iconst (npc := 14) (v := 4) (by decide) dX6_start_13 rfl ?_
  refine aw_icmp_ge (npc := 17) (tgt := 52) dX6_start_14 rfl (by decide) (fun _ => ?_) (fun hc => absurd (by decide) hc)
  refine aw_vret rfl dX6_start_52 ?_
  exact hq _ ⟨_, wy_c (st_0 (N 12) (N 13) (N 14) (N 15)) (st_1 (N 16) (N 17) (N 18) (N 19)) Y19, rfl, rfl, rfl, rfl⟩ (am_fpU (show ¬ (37 < 37 ∨ 39 ≤ 37) by omega) (am_fpU (show ¬ (38 < 37 ∨ 39 ≤ 38) by omega) (am_fpU (show ¬ (37 < 37 ∨ 39 ≤ 37) by omega) (am_fpU (show ¬ (38 < 37 ∨ 39 ≤ 38) by omega) (am_fpU (show ¬ (37 < 37 ∨ 39 ≤ 37) by omega) (am_fpU (show ¬ (38 < 37 ∨ 39 ≤ 38) by omega) (am_fpU (show ¬ (37 < 37 ∨ 39 ≤ 37) by omega) (am_fpU (show ¬ (38 < 37 ∨ 39 ≤ 38) by omega) (am_fpU (show ¬ (37 < 37 ∨ 39 ≤ 37) by omega) (am_fpU (show ¬ (37 < 37 ∨ 39 ≤ 37) by omega) am_fp0))))))))))
set_option maxHeartbeats 4000000 in
set_option maxRecDepth 100000 in
theorem c_step {X : List Int32} {d rc rs n : Nat} {Q : am_Q} {h : am_H} {N : Nat → Int32} {tx : List Value} {lk mv : Nat → Int32} {V : Nat} (F : QR 1 N tx lk mv h) (Y : WV N V h) (hq : ∀ h9, WV N (V + 1) h9 → am_fp (fun k => k < 37 ∨ 39 ≤ k) h9 h → Q none n h9) : AW X mX6_step (d + 3) rc rs 0 [some (.ref 37), some (.ref 1), none, none, none] [] n h Q := by
  obtain ⟨wy, Y, w0, w1, w2, w3⟩ := Y
  refine aw_iconst (npc := 1) (v := 3) (by decide) dX6_step_0 rfl ?_
  refine aw_istore_n (npc := 2) (L' := [some (.ref 37), some (.ref 1), some (.int 3), none, none]) dX6_step_1 rfl (by decide) rfl rfl ?_
  refine aw_iload_n (npc := 3) rfl dX6_step_2 rfl ?_
  refine aw_if_lt (npc := 6) (tgt := 112) dX6_step_3 rfl (by decide) (fun hc => absurd hc (by decide)) (fun _ => ?_)
  refine aw_aload_n (npc := 7) rfl dX6_step_6 rfl ?_
  refine aw_get (npc := 10) dX6_step_7 rfl kf_X6_36 F.1 rfl ?_
  refine aw_iconst (npc := 11) (v := 0) (by decide) dX6_step_10 rfl ?_
  refine aw_iload_n (npc := 12) rfl dX6_step_11 rfl ?_
  refine aw_callSN (npc := 15) (N := mX7_carePlace) (mc := 0) (ms := 0) (A := [.int 0, .int 3]) (S := [.ref 3]) (L0 := [some (.int 0), some (.int 3)]) dX6_step_12 rfl km_X7_carePlace kk_X6_41 rfl ⟨rfl, by decide⟩ rfl (Nat.le_of_ble_eq_true rfl) (Nat.zero_add _) (Nat.zero_add _) rfl ?_
  refine aw_iload_n (npc := 1) rfl dX7_carePlace_0 rfl ?_
  refine aw_iconst (npc := 2) (v := 4) (by decide) dX7_carePlace_1 rfl ?_
  refine aw_imulV (npc := 3) (v := 0) dX7_carePlace_2 rfl (by decide) ?_
  refine aw_iload_n (npc := 4) rfl dX7_carePlace_3 rfl ?_
  refine aw_iaddV (npc := 5) (v := 3) dX7_carePlace_4 rfl (by decide) ?_
  refine aw_iret rfl dX7_carePlace_5 ?_
  refine aw_re (S' := [.int 3, .ref 3]) rfl ?_
  refine aw_iald (npc := 16) (x := N 15) (j := 3) dX6_step_15 rfl F.2.2.1 ⟨by decide, by decide⟩ (tl_at (by omega)) ?_
  refine aw_istore_n (npc := 17) (L' := [some (.ref 37), some (.ref 1), some (.int 3), some (.int (N 15)), none]) dX6_step_16 rfl (by decide) rfl rfl ?_
  refine aw_aload_n (npc := 18) rfl dX6_step_17 rfl ?_
  refine aw_get (npc := 21) dX6_step_18 rfl kf_X6_36 F.1 rfl ?_
  refine aw_iconst (npc := 22) (v := 1) (by decide) dX6_step_21 rfl ?_
  refine aw_iload_n (npc := 23) rfl dX6_step_22 rfl ?_
  refine aw_callSN (npc := 26) (N := mX7_carePlace) (mc := 0) (ms := 0) (A := [.int 1, .int 3]) (S := [.ref 3]) (L0 := [some (.int 1), some (.int 3)]) dX6_step_23 rfl km_X7_carePlace kk_X6_41 rfl ⟨rfl, by decide⟩ rfl (Nat.le_of_ble_eq_true rfl) (Nat.zero_add _) (Nat.zero_add _) rfl ?_
  refine aw_iload_n (npc := 1) rfl dX7_carePlace_0 rfl ?_
  refine aw_iconst (npc := 2) (v := 4) (by decide) dX7_carePlace_1 rfl ?_
  refine aw_imulV (npc := 3) (v := 4) dX7_carePlace_2 rfl (by decide) ?_
  refine aw_iload_n (npc := 4) rfl dX7_carePlace_3 rfl ?_
  refine aw_iaddV (npc := 5) (v := 7) dX7_carePlace_4 rfl (by decide) ?_
  refine aw_iret rfl dX7_carePlace_5 ?_
  refine aw_re (S' := [.int 7, .ref 3]) rfl ?_
  refine aw_iald (npc := 27) (x := N 19) (j := 7) dX6_step_26 rfl F.2.2.1 ⟨by decide, by decide⟩ (tl_at (by omega)) ?_
  refine aw_istore (npc := 29) (L' := [some (.ref 37), some (.ref 1), some (.int 3), some (.int (N 15)), some (.int (N 19))]) dX6_step_27 rfl (by decide) rfl rfl ?_
  refine aw_aload_n (npc := 30) rfl dX6_step_29 rfl ?_
  refine aw_get (npc := 33) dX6_step_30 rfl kf_X6_9 Y.1 rfl ?_
  refine aw_iload_n (npc := 34) rfl dX6_step_33 rfl ?_
  refine aw_iald (npc := 35) (x := wy 3) (j := 3) dX6_step_34 rfl Y.2 ⟨by decide, by decide⟩ (tl_at (by omega)) ?_
  refine aw_top (y := nI (V % 10)) (w3) ?_
  refine aw_bipush (npc := 37) (v := 9) (by decide) dX6_step_35 rfl ?_
  refine aw_icmp_ge (npc := 40) (tgt := 72) dX6_step_37 rfl (by decide) (fun hc1 => ?_) (fun hc1 => ?_)
  · have hc1N := (nI_leI (a := 9) (b := (V % 10)) (by omega) (by omega)).mp hc1
    refine aw_aload_n (npc := 73) rfl dX6_step_72 rfl ?_
    refine aw_get (npc := 76) dX6_step_73 rfl kf_X6_9 Y.1 rfl ?_
    refine aw_iload_n (npc := 77) rfl dX6_step_76 rfl ?_
    refine aw_iconst (npc := 78) (v := 0) (by decide) dX6_step_77 rfl ?_
    refine aw_iast (npc := 79) (j := 3) dX6_step_78 rfl Y.2 ⟨by decide, by decide⟩ (by rw [tl_len]; omega) rfl ?_
    have Y2 := wy_set (j := 3) (v := 0) Y
    have F3 := qr_out (a := 38) (c := .inl (0, (tl 4 wy).set 3 0)) (by omega) F
    refine aw_aload_n (npc := 80) rfl dX6_step_79 rfl ?_
    refine aw_dup (npc := 81) rfl dX6_step_80 rfl ?_
    refine aw_get (npc := 84) dX6_step_81 rfl kf_X6_15 Y2.1 rfl ?_
    refine aw_bipush (npc := 86) (v := 9) (by decide) dX6_step_84 rfl ?_
    refine aw_iload_n (npc := 87) rfl dX6_step_86 rfl ?_
    refine aw_imul (npc := 88) dX6_step_87 rfl ?_
    refine aw_isub (npc := 89) dX6_step_88 rfl ?_
    refine aw_put (npc := 92) dX6_step_89 rfl kf_X6_15 Y2.1 (Nat.le_of_ble_eq_true rfl) (am_ok_int _) rfl ?_
    have Y4 := wy_p1 (v := (hs0 (dD N V)) - (9 * (N 15))) Y2
    have F5 := qr_out (a := 37) (c := .inr (6, ([.ref 38, .int (hs0 (dD N V)), .int (hs1 (dD N V))] : List Value).set 1 (.int ((hs0 (dD N V)) - (9 * (N 15)))))) (by omega) F3
    refine aw_aload_n (npc := 93) rfl dX6_step_92 rfl ?_
    refine aw_dup (npc := 94) rfl dX6_step_93 rfl ?_
    refine aw_get (npc := 97) dX6_step_94 rfl kf_X6_19 Y4.1 rfl ?_
    refine aw_bipush (npc := 99) (v := 9) (by decide) dX6_step_97 rfl ?_
    refine aw_iload (npc := 101) rfl dX6_step_99 rfl ?_
    refine aw_imul (npc := 102) dX6_step_101 rfl ?_
    refine aw_iadd (npc := 103) dX6_step_102 rfl ?_
    refine aw_put (npc := 106) dX6_step_103 rfl kf_X6_19 Y4.1 (Nat.le_of_ble_eq_true rfl) (am_ok_int _) rfl ?_
    have Y6 := wy_p2 (v := (hs1 (dD N V)) + (9 * (N 19))) Y4
    have F7 := qr_out (a := 37) (c := .inr (6, ([.ref 38, .int ((hs0 (dD N V)) - (9 * (N 15))), .int (hs1 (dD N V))] : List Value).set 2 (.int ((hs1 (dD N V)) + (9 * (N 19)))))) (by omega) F5
    refine aw_iinc (npc := 109) (v := 2) (L' := [some (.ref 37), some (.ref 1), some (.int 2), some (.int (N 15)), some (.int (N 19))]) dX6_step_106 rfl rfl (by decide) (by decide) rfl rfl ?_
    refine aw_goto (npc := 2) dX6_step_109 (by decide) ?_
    refine aw_iload_n (npc := 3) rfl dX6_step_2 rfl ?_
    refine aw_if_lt (npc := 6) (tgt := 112) dX6_step_3 rfl (by decide) (fun hc => absurd hc (by decide)) (fun _ => ?_)
    refine aw_aload_n (npc := 7) rfl dX6_step_6 rfl ?_
    refine aw_get (npc := 10) dX6_step_7 rfl kf_X6_36 F7.1 rfl ?_
    refine aw_iconst (npc := 11) (v := 0) (by decide) dX6_step_10 rfl ?_
    refine aw_iload_n (npc := 12) rfl dX6_step_11 rfl ?_
    refine aw_callSN (npc := 15) (N := mX7_carePlace) (mc := 0) (ms := 0) (A := [.int 0, .int 2]) (S := [.ref 3]) (L0 := [some (.int 0), some (.int 2)]) dX6_step_12 rfl km_X7_carePlace kk_X6_41 rfl ⟨rfl, by decide⟩ rfl (Nat.le_of_ble_eq_true rfl) (Nat.zero_add _) (Nat.zero_add _) rfl ?_
    refine aw_iload_n (npc := 1) rfl dX7_carePlace_0 rfl ?_
    refine aw_iconst (npc := 2) (v := 4) (by decide) dX7_carePlace_1 rfl ?_
    refine aw_imulV (npc := 3) (v := 0) dX7_carePlace_2 rfl (by decide) ?_
    refine aw_iload_n (npc := 4) rfl dX7_carePlace_3 rfl ?_
    refine aw_iaddV (npc := 5) (v := 2) dX7_carePlace_4 rfl (by decide) ?_
    refine aw_iret rfl dX7_carePlace_5 ?_
    refine aw_re (S' := [.int 2, .ref 3]) rfl ?_
    refine aw_iald (npc := 16) (x := N 14) (j := 2) dX6_step_15 rfl F7.2.2.1 ⟨by decide, by decide⟩ (tl_at (by omega)) ?_
    refine aw_istore_n (npc := 17) (L' := [some (.ref 37), some (.ref 1), some (.int 2), some (.int (N 14)), some (.int (N 19))]) dX6_step_16 rfl (by decide) rfl rfl ?_
    refine aw_aload_n (npc := 18) rfl dX6_step_17 rfl ?_
    refine aw_get (npc := 21) dX6_step_18 rfl kf_X6_36 F7.1 rfl ?_
    refine aw_iconst (npc := 22) (v := 1) (by decide) dX6_step_21 rfl ?_
    refine aw_iload_n (npc := 23) rfl dX6_step_22 rfl ?_
    refine aw_callSN (npc := 26) (N := mX7_carePlace) (mc := 0) (ms := 0) (A := [.int 1, .int 2]) (S := [.ref 3]) (L0 := [some (.int 1), some (.int 2)]) dX6_step_23 rfl km_X7_carePlace kk_X6_41 rfl ⟨rfl, by decide⟩ rfl (Nat.le_of_ble_eq_true rfl) (Nat.zero_add _) (Nat.zero_add _) rfl ?_
    refine aw_iload_n (npc := 1) rfl dX7_carePlace_0 rfl ?_
    refine aw_iconst (npc := 2) (v := 4) (by decide) dX7_carePlace_1 rfl ?_
    refine aw_imulV (npc := 3) (v := 4) dX7_carePlace_2 rfl (by decide) ?_
    refine aw_iload_n (npc := 4) rfl dX7_carePlace_3 rfl ?_
    refine aw_iaddV (npc := 5) (v := 6) dX7_carePlace_4 rfl (by decide) ?_
    refine aw_iret rfl dX7_carePlace_5 ?_
    refine aw_re (S' := [.int 6, .ref 3]) rfl ?_
    refine aw_iald (npc := 27) (x := N 18) (j := 6) dX6_step_26 rfl F7.2.2.1 ⟨by decide, by decide⟩ (tl_at (by omega)) ?_
    refine aw_istore (npc := 29) (L' := [some (.ref 37), some (.ref 1), some (.int 2), some (.int (N 14)), some (.int (N 18))]) dX6_step_27 rfl (by decide) rfl rfl ?_
    refine aw_aload_n (npc := 30) rfl dX6_step_29 rfl ?_
    refine aw_get (npc := 33) dX6_step_30 rfl kf_X6_9 Y6.1 rfl ?_
    refine aw_iload_n (npc := 34) rfl dX6_step_33 rfl ?_
    refine aw_iald (npc := 35) (x := (upd wy 3 0) 2) (j := 2) dX6_step_34 rfl Y6.2 ⟨by decide, by decide⟩ (tl_at (by omega)) ?_
    refine aw_top (y := wy 2) ((pk_un (by omega))) ?_
    refine aw_top (y := nI (V / 10 % 10)) (w2) ?_
    refine aw_bipush (npc := 37) (v := 9) (by decide) dX6_step_35 rfl ?_
    refine aw_icmp_ge (npc := 40) (tgt := 72) dX6_step_37 rfl (by decide) (fun hc8 => ?_) (fun hc8 => ?_)
    · have hc8N := (nI_leI (a := 9) (b := (V / 10 % 10)) (by omega) (by omega)).mp hc8
      refine aw_aload_n (npc := 73) rfl dX6_step_72 rfl ?_
      refine aw_get (npc := 76) dX6_step_73 rfl kf_X6_9 Y6.1 rfl ?_
      refine aw_iload_n (npc := 77) rfl dX6_step_76 rfl ?_
      refine aw_iconst (npc := 78) (v := 0) (by decide) dX6_step_77 rfl ?_
      refine aw_iast (npc := 79) (j := 2) dX6_step_78 rfl Y6.2 ⟨by decide, by decide⟩ (by rw [tl_len]; omega) rfl ?_
      have Y9 := wy_set (j := 2) (v := 0) Y6
      have F10 := qr_out (a := 38) (c := .inl (0, (tl 4 (upd wy 3 0)).set 2 0)) (by omega) F7
      refine aw_aload_n (npc := 80) rfl dX6_step_79 rfl ?_
      refine aw_dup (npc := 81) rfl dX6_step_80 rfl ?_
      refine aw_get (npc := 84) dX6_step_81 rfl kf_X6_15 Y9.1 rfl ?_
      refine aw_bipush (npc := 86) (v := 9) (by decide) dX6_step_84 rfl ?_
      refine aw_iload_n (npc := 87) rfl dX6_step_86 rfl ?_
      refine aw_imul (npc := 88) dX6_step_87 rfl ?_
      refine aw_isub (npc := 89) dX6_step_88 rfl ?_
      refine aw_put (npc := 92) dX6_step_89 rfl kf_X6_15 Y9.1 (Nat.le_of_ble_eq_true rfl) (am_ok_int _) rfl ?_
      have Y11 := wy_p1 (v := ((hs0 (dD N V)) - (9 * (N 15))) - (9 * (N 14))) Y9
      have F12 := qr_out (a := 37) (c := .inr (6, ([.ref 38, .int ((hs0 (dD N V)) - (9 * (N 15))), .int ((hs1 (dD N V)) + (9 * (N 19)))] : List Value).set 1 (.int (((hs0 (dD N V)) - (9 * (N 15))) - (9 * (N 14)))))) (by omega) F10
      refine aw_aload_n (npc := 93) rfl dX6_step_92 rfl ?_
      refine aw_dup (npc := 94) rfl dX6_step_93 rfl ?_
      refine aw_get (npc := 97) dX6_step_94 rfl kf_X6_19 Y11.1 rfl ?_
      refine aw_bipush (npc := 99) (v := 9) (by decide) dX6_step_97 rfl ?_
      refine aw_iload (npc := 101) rfl dX6_step_99 rfl ?_
      refine aw_imul (npc := 102) dX6_step_101 rfl ?_
      refine aw_iadd (npc := 103) dX6_step_102 rfl ?_
      refine aw_put (npc := 106) dX6_step_103 rfl kf_X6_19 Y11.1 (Nat.le_of_ble_eq_true rfl) (am_ok_int _) rfl ?_
      have Y13 := wy_p2 (v := ((hs1 (dD N V)) + (9 * (N 19))) + (9 * (N 18))) Y11
      have F14 := qr_out (a := 37) (c := .inr (6, ([.ref 38, .int (((hs0 (dD N V)) - (9 * (N 15))) - (9 * (N 14))), .int ((hs1 (dD N V)) + (9 * (N 19)))] : List Value).set 2 (.int (((hs1 (dD N V)) + (9 * (N 19))) + (9 * (N 18)))))) (by omega) F12
      refine aw_iinc (npc := 109) (v := 1) (L' := [some (.ref 37), some (.ref 1), some (.int 1), some (.int (N 14)), some (.int (N 18))]) dX6_step_106 rfl rfl (by decide) (by decide) rfl rfl ?_
      refine aw_goto (npc := 2) dX6_step_109 (by decide) ?_
      refine aw_iload_n (npc := 3) rfl dX6_step_2 rfl ?_
      refine aw_if_lt (npc := 6) (tgt := 112) dX6_step_3 rfl (by decide) (fun hc => absurd hc (by decide)) (fun _ => ?_)
      refine aw_aload_n (npc := 7) rfl dX6_step_6 rfl ?_
      refine aw_get (npc := 10) dX6_step_7 rfl kf_X6_36 F14.1 rfl ?_
      refine aw_iconst (npc := 11) (v := 0) (by decide) dX6_step_10 rfl ?_
      refine aw_iload_n (npc := 12) rfl dX6_step_11 rfl ?_
      refine aw_callSN (npc := 15) (N := mX7_carePlace) (mc := 0) (ms := 0) (A := [.int 0, .int 1]) (S := [.ref 3]) (L0 := [some (.int 0), some (.int 1)]) dX6_step_12 rfl km_X7_carePlace kk_X6_41 rfl ⟨rfl, by decide⟩ rfl (Nat.le_of_ble_eq_true rfl) (Nat.zero_add _) (Nat.zero_add _) rfl ?_
      refine aw_iload_n (npc := 1) rfl dX7_carePlace_0 rfl ?_
      refine aw_iconst (npc := 2) (v := 4) (by decide) dX7_carePlace_1 rfl ?_
      refine aw_imulV (npc := 3) (v := 0) dX7_carePlace_2 rfl (by decide) ?_
      refine aw_iload_n (npc := 4) rfl dX7_carePlace_3 rfl ?_
      refine aw_iaddV (npc := 5) (v := 1) dX7_carePlace_4 rfl (by decide) ?_
      refine aw_iret rfl dX7_carePlace_5 ?_
      refine aw_re (S' := [.int 1, .ref 3]) rfl ?_
      refine aw_iald (npc := 16) (x := N 13) (j := 1) dX6_step_15 rfl F14.2.2.1 ⟨by decide, by decide⟩ (tl_at (by omega)) ?_
      refine aw_istore_n (npc := 17) (L' := [some (.ref 37), some (.ref 1), some (.int 1), some (.int (N 13)), some (.int (N 18))]) dX6_step_16 rfl (by decide) rfl rfl ?_
      refine aw_aload_n (npc := 18) rfl dX6_step_17 rfl ?_
      refine aw_get (npc := 21) dX6_step_18 rfl kf_X6_36 F14.1 rfl ?_
      refine aw_iconst (npc := 22) (v := 1) (by decide) dX6_step_21 rfl ?_
      refine aw_iload_n (npc := 23) rfl dX6_step_22 rfl ?_
      refine aw_callSN (npc := 26) (N := mX7_carePlace) (mc := 0) (ms := 0) (A := [.int 1, .int 1]) (S := [.ref 3]) (L0 := [some (.int 1), some (.int 1)]) dX6_step_23 rfl km_X7_carePlace kk_X6_41 rfl ⟨rfl, by decide⟩ rfl (Nat.le_of_ble_eq_true rfl) (Nat.zero_add _) (Nat.zero_add _) rfl ?_
      refine aw_iload_n (npc := 1) rfl dX7_carePlace_0 rfl ?_
      refine aw_iconst (npc := 2) (v := 4) (by decide) dX7_carePlace_1 rfl ?_
      refine aw_imulV (npc := 3) (v := 4) dX7_carePlace_2 rfl (by decide) ?_
      refine aw_iload_n (npc := 4) rfl dX7_carePlace_3 rfl ?_
      refine aw_iaddV (npc := 5) (v := 5) dX7_carePlace_4 rfl (by decide) ?_
      refine aw_iret rfl dX7_carePlace_5 ?_
      refine aw_re (S' := [.int 5, .ref 3]) rfl ?_
      refine aw_iald (npc := 27) (x := N 17) (j := 5) dX6_step_26 rfl F14.2.2.1 ⟨by decide, by decide⟩ (tl_at (by omega)) ?_
      refine aw_istore (npc := 29) (L' := [some (.ref 37), some (.ref 1), some (.int 1), some (.int (N 13)), some (.int (N 17))]) dX6_step_27 rfl (by decide) rfl rfl ?_
      refine aw_aload_n (npc := 30) rfl dX6_step_29 rfl ?_
      refine aw_get (npc := 33) dX6_step_30 rfl kf_X6_9 Y13.1 rfl ?_
      refine aw_iload_n (npc := 34) rfl dX6_step_33 rfl ?_
      refine aw_iald (npc := 35) (x := (upd (upd wy 3 0) 2 0) 1) (j := 1) dX6_step_34 rfl Y13.2 ⟨by decide, by decide⟩ (tl_at (by omega)) ?_
      refine aw_top (y := wy 1) (((pk_un (by omega))).trans (pk_un (by omega))) ?_
      refine aw_top (y := nI (V / 100 % 10)) (w1) ?_
      refine aw_bipush (npc := 37) (v := 9) (by decide) dX6_step_35 rfl ?_
      refine aw_icmp_ge (npc := 40) (tgt := 72) dX6_step_37 rfl (by decide) (fun hc15 => ?_) (fun hc15 => ?_)
      · have hc15N := (nI_leI (a := 9) (b := (V / 100 % 10)) (by omega) (by omega)).mp hc15
        refine aw_aload_n (npc := 73) rfl dX6_step_72 rfl ?_
        refine aw_get (npc := 76) dX6_step_73 rfl kf_X6_9 Y13.1 rfl ?_
        refine aw_iload_n (npc := 77) rfl dX6_step_76 rfl ?_
        refine aw_iconst (npc := 78) (v := 0) (by decide) dX6_step_77 rfl ?_
        refine aw_iast (npc := 79) (j := 1) dX6_step_78 rfl Y13.2 ⟨by decide, by decide⟩ (by rw [tl_len]; omega) rfl ?_
        have Y16 := wy_set (j := 1) (v := 0) Y13
        have F17 := qr_out (a := 38) (c := .inl (0, (tl 4 (upd (upd wy 3 0) 2 0)).set 1 0)) (by omega) F14
        refine aw_aload_n (npc := 80) rfl dX6_step_79 rfl ?_
        refine aw_dup (npc := 81) rfl dX6_step_80 rfl ?_
        refine aw_get (npc := 84) dX6_step_81 rfl kf_X6_15 Y16.1 rfl ?_
        refine aw_bipush (npc := 86) (v := 9) (by decide) dX6_step_84 rfl ?_
        refine aw_iload_n (npc := 87) rfl dX6_step_86 rfl ?_
        refine aw_imul (npc := 88) dX6_step_87 rfl ?_
        refine aw_isub (npc := 89) dX6_step_88 rfl ?_
        refine aw_put (npc := 92) dX6_step_89 rfl kf_X6_15 Y16.1 (Nat.le_of_ble_eq_true rfl) (am_ok_int _) rfl ?_
        have Y18 := wy_p1 (v := (((hs0 (dD N V)) - (9 * (N 15))) - (9 * (N 14))) - (9 * (N 13))) Y16
        have F19 := qr_out (a := 37) (c := .inr (6, ([.ref 38, .int (((hs0 (dD N V)) - (9 * (N 15))) - (9 * (N 14))), .int (((hs1 (dD N V)) + (9 * (N 19))) + (9 * (N 18)))] : List Value).set 1 (.int ((((hs0 (dD N V)) - (9 * (N 15))) - (9 * (N 14))) - (9 * (N 13)))))) (by omega) F17
        refine aw_aload_n (npc := 93) rfl dX6_step_92 rfl ?_
        refine aw_dup (npc := 94) rfl dX6_step_93 rfl ?_
        refine aw_get (npc := 97) dX6_step_94 rfl kf_X6_19 Y18.1 rfl ?_
        refine aw_bipush (npc := 99) (v := 9) (by decide) dX6_step_97 rfl ?_
        refine aw_iload (npc := 101) rfl dX6_step_99 rfl ?_
        refine aw_imul (npc := 102) dX6_step_101 rfl ?_
        refine aw_iadd (npc := 103) dX6_step_102 rfl ?_
        refine aw_put (npc := 106) dX6_step_103 rfl kf_X6_19 Y18.1 (Nat.le_of_ble_eq_true rfl) (am_ok_int _) rfl ?_
        have Y20 := wy_p2 (v := (((hs1 (dD N V)) + (9 * (N 19))) + (9 * (N 18))) + (9 * (N 17))) Y18
        have F21 := qr_out (a := 37) (c := .inr (6, ([.ref 38, .int ((((hs0 (dD N V)) - (9 * (N 15))) - (9 * (N 14))) - (9 * (N 13))), .int (((hs1 (dD N V)) + (9 * (N 19))) + (9 * (N 18)))] : List Value).set 2 (.int ((((hs1 (dD N V)) + (9 * (N 19))) + (9 * (N 18))) + (9 * (N 17)))))) (by omega) F19
        refine aw_iinc (npc := 109) (v := 0) (L' := [some (.ref 37), some (.ref 1), some (.int 0), some (.int (N 13)), some (.int (N 17))]) dX6_step_106 rfl rfl (by decide) (by decide) rfl rfl ?_
        refine aw_goto (npc := 2) dX6_step_109 (by decide) ?_
        refine aw_iload_n (npc := 3) rfl dX6_step_2 rfl ?_
        refine aw_if_lt (npc := 6) (tgt := 112) dX6_step_3 rfl (by decide) (fun hc => absurd hc (by decide)) (fun _ => ?_)
        refine aw_aload_n (npc := 7) rfl dX6_step_6 rfl ?_
        refine aw_get (npc := 10) dX6_step_7 rfl kf_X6_36 F21.1 rfl ?_
        refine aw_iconst (npc := 11) (v := 0) (by decide) dX6_step_10 rfl ?_
        refine aw_iload_n (npc := 12) rfl dX6_step_11 rfl ?_
        refine aw_callSN (npc := 15) (N := mX7_carePlace) (mc := 0) (ms := 0) (A := [.int 0, .int 0]) (S := [.ref 3]) (L0 := [some (.int 0), some (.int 0)]) dX6_step_12 rfl km_X7_carePlace kk_X6_41 rfl ⟨rfl, by decide⟩ rfl (Nat.le_of_ble_eq_true rfl) (Nat.zero_add _) (Nat.zero_add _) rfl ?_
        refine aw_iload_n (npc := 1) rfl dX7_carePlace_0 rfl ?_
        refine aw_iconst (npc := 2) (v := 4) (by decide) dX7_carePlace_1 rfl ?_
        refine aw_imulV (npc := 3) (v := 0) dX7_carePlace_2 rfl (by decide) ?_
        refine aw_iload_n (npc := 4) rfl dX7_carePlace_3 rfl ?_
        refine aw_iaddV (npc := 5) (v := 0) dX7_carePlace_4 rfl (by decide) ?_
        refine aw_iret rfl dX7_carePlace_5 ?_
        refine aw_re (S' := [.int 0, .ref 3]) rfl ?_
        refine aw_iald (npc := 16) (x := N 12) (j := 0) dX6_step_15 rfl F21.2.2.1 ⟨by decide, by decide⟩ (tl_at (by omega)) ?_
        refine aw_istore_n (npc := 17) (L' := [some (.ref 37), some (.ref 1), some (.int 0), some (.int (N 12)), some (.int (N 17))]) dX6_step_16 rfl (by decide) rfl rfl ?_
        refine aw_aload_n (npc := 18) rfl dX6_step_17 rfl ?_
        refine aw_get (npc := 21) dX6_step_18 rfl kf_X6_36 F21.1 rfl ?_
        refine aw_iconst (npc := 22) (v := 1) (by decide) dX6_step_21 rfl ?_
        refine aw_iload_n (npc := 23) rfl dX6_step_22 rfl ?_
        refine aw_callSN (npc := 26) (N := mX7_carePlace) (mc := 0) (ms := 0) (A := [.int 1, .int 0]) (S := [.ref 3]) (L0 := [some (.int 1), some (.int 0)]) dX6_step_23 rfl km_X7_carePlace kk_X6_41 rfl ⟨rfl, by decide⟩ rfl (Nat.le_of_ble_eq_true rfl) (Nat.zero_add _) (Nat.zero_add _) rfl ?_
        refine aw_iload_n (npc := 1) rfl dX7_carePlace_0 rfl ?_
        refine aw_iconst (npc := 2) (v := 4) (by decide) dX7_carePlace_1 rfl ?_
        refine aw_imulV (npc := 3) (v := 4) dX7_carePlace_2 rfl (by decide) ?_
        refine aw_iload_n (npc := 4) rfl dX7_carePlace_3 rfl ?_
        refine aw_iaddV (npc := 5) (v := 4) dX7_carePlace_4 rfl (by decide) ?_
        refine aw_iret rfl dX7_carePlace_5 ?_
        refine aw_re (S' := [.int 4, .ref 3]) rfl ?_
        refine aw_iald (npc := 27) (x := N 16) (j := 4) dX6_step_26 rfl F21.2.2.1 ⟨by decide, by decide⟩ (tl_at (by omega)) ?_
        refine aw_istore (npc := 29) (L' := [some (.ref 37), some (.ref 1), some (.int 0), some (.int (N 12)), some (.int (N 16))]) dX6_step_27 rfl (by decide) rfl rfl ?_
        refine aw_aload_n (npc := 30) rfl dX6_step_29 rfl ?_
        refine aw_get (npc := 33) dX6_step_30 rfl kf_X6_9 Y20.1 rfl ?_
        refine aw_iload_n (npc := 34) rfl dX6_step_33 rfl ?_
        refine aw_iald (npc := 35) (x := (upd (upd (upd wy 3 0) 2 0) 1 0) 0) (j := 0) dX6_step_34 rfl Y20.2 ⟨by decide, by decide⟩ (tl_at (by omega)) ?_
        refine aw_top (y := wy 0) ((((pk_un (by omega))).trans (pk_un (by omega))).trans (pk_un (by omega))) ?_
        refine aw_top (y := nI (V / 1000 % 10)) (w0) ?_
        refine aw_bipush (npc := 37) (v := 9) (by decide) dX6_step_35 rfl ?_
        refine aw_icmp_ge (npc := 40) (tgt := 72) dX6_step_37 rfl (by decide) (fun hc22 => ?_) (fun hc22 => ?_)
        · have hc22N := (nI_leI (a := 9) (b := (V / 1000 % 10)) (by omega) (by omega)).mp hc22
          refine aw_aload_n (npc := 73) rfl dX6_step_72 rfl ?_
          refine aw_get (npc := 76) dX6_step_73 rfl kf_X6_9 Y20.1 rfl ?_
          refine aw_iload_n (npc := 77) rfl dX6_step_76 rfl ?_
          refine aw_iconst (npc := 78) (v := 0) (by decide) dX6_step_77 rfl ?_
          refine aw_iast (npc := 79) (j := 0) dX6_step_78 rfl Y20.2 ⟨by decide, by decide⟩ (by rw [tl_len]; omega) rfl ?_
          have Y23 := wy_set (j := 0) (v := 0) Y20
          have F24 := qr_out (a := 38) (c := .inl (0, (tl 4 (upd (upd (upd wy 3 0) 2 0) 1 0)).set 0 0)) (by omega) F21
          refine aw_aload_n (npc := 80) rfl dX6_step_79 rfl ?_
          refine aw_dup (npc := 81) rfl dX6_step_80 rfl ?_
          refine aw_get (npc := 84) dX6_step_81 rfl kf_X6_15 Y23.1 rfl ?_
          refine aw_bipush (npc := 86) (v := 9) (by decide) dX6_step_84 rfl ?_
          refine aw_iload_n (npc := 87) rfl dX6_step_86 rfl ?_
          refine aw_imul (npc := 88) dX6_step_87 rfl ?_
          refine aw_isub (npc := 89) dX6_step_88 rfl ?_
          refine aw_put (npc := 92) dX6_step_89 rfl kf_X6_15 Y23.1 (Nat.le_of_ble_eq_true rfl) (am_ok_int _) rfl ?_
          have Y25 := wy_p1 (v := ((((hs0 (dD N V)) - (9 * (N 15))) - (9 * (N 14))) - (9 * (N 13))) - (9 * (N 12))) Y23
          have F26 := qr_out (a := 37) (c := .inr (6, ([.ref 38, .int ((((hs0 (dD N V)) - (9 * (N 15))) - (9 * (N 14))) - (9 * (N 13))), .int ((((hs1 (dD N V)) + (9 * (N 19))) + (9 * (N 18))) + (9 * (N 17)))] : List Value).set 1 (.int (((((hs0 (dD N V)) - (9 * (N 15))) - (9 * (N 14))) - (9 * (N 13))) - (9 * (N 12)))))) (by omega) F24
          refine aw_aload_n (npc := 93) rfl dX6_step_92 rfl ?_
          refine aw_dup (npc := 94) rfl dX6_step_93 rfl ?_
          refine aw_get (npc := 97) dX6_step_94 rfl kf_X6_19 Y25.1 rfl ?_
          refine aw_bipush (npc := 99) (v := 9) (by decide) dX6_step_97 rfl ?_
          refine aw_iload (npc := 101) rfl dX6_step_99 rfl ?_
          refine aw_imul (npc := 102) dX6_step_101 rfl ?_
          refine aw_iadd (npc := 103) dX6_step_102 rfl ?_
          refine aw_put (npc := 106) dX6_step_103 rfl kf_X6_19 Y25.1 (Nat.le_of_ble_eq_true rfl) (am_ok_int _) rfl ?_
          have Y27 := wy_p2 (v := ((((hs1 (dD N V)) + (9 * (N 19))) + (9 * (N 18))) + (9 * (N 17))) + (9 * (N 16))) Y25
          have F28 := qr_out (a := 37) (c := .inr (6, ([.ref 38, .int (((((hs0 (dD N V)) - (9 * (N 15))) - (9 * (N 14))) - (9 * (N 13))) - (9 * (N 12))), .int ((((hs1 (dD N V)) + (9 * (N 19))) + (9 * (N 18))) + (9 * (N 17)))] : List Value).set 2 (.int (((((hs1 (dD N V)) + (9 * (N 19))) + (9 * (N 18))) + (9 * (N 17))) + (9 * (N 16)))))) (by omega) F26
          refine aw_iinc (npc := 109) (v := (-1)) (L' := [some (.ref 37), some (.ref 1), some (.int (-1)), some (.int (N 12)), some (.int (N 16))]) dX6_step_106 rfl rfl (by decide) (by decide) rfl rfl ?_
          refine aw_goto (npc := 2) dX6_step_109 (by decide) ?_
          refine aw_iload_n (npc := 3) rfl dX6_step_2 rfl ?_
          refine aw_if_lt (npc := 6) (tgt := 112) dX6_step_3 rfl (by decide) (fun _ => ?_) (fun hc => absurd (by decide) hc)
          refine aw_vret rfl dX6_step_112 ?_
          have q0 : (V / 1000 % 10) = 9 := by omega
          have q1 : (V / 100 % 10) = 9 := by omega
          have q2 : (V / 10 % 10) = 9 := by omega
          have q3 : (V % 10) = 9 := by omega
          have g0 : ((V + 1) / 1000 % 10) = 0 := by omega
          have g1 : ((V + 1) / 100 % 10) = 0 := by omega
          have g2 : ((V + 1) / 10 % 10) = 0 := by omega
          have g3 : ((V + 1) % 10) = 0 := by omega
          have ed : dD N (V + 1) = dN N 0 0 0 0 := by unfold dD; rw [g0, g1, g2, g3]
          have eo : dD N V = dN N 9 9 9 9 := by unfold dD; rw [q0, q1, q2, q3]
          refine hq _ ⟨_, wy_c ?_ ?_ Y27, ?_, ?_, ?_, ?_⟩ (am_fpU (show ¬ (37 < 37 ∨ 39 ≤ 37) by omega) (am_fpU (show ¬ (37 < 37 ∨ 39 ≤ 37) by omega) (am_fpU (show ¬ (38 < 37 ∨ 39 ≤ 38) by omega) (am_fpU (show ¬ (37 < 37 ∨ 39 ≤ 37) by omega) (am_fpU (show ¬ (37 < 37 ∨ 39 ≤ 37) by omega) (am_fpU (show ¬ (38 < 37 ∨ 39 ≤ 38) by omega) (am_fpU (show ¬ (37 < 37 ∨ 39 ≤ 37) by omega) (am_fpU (show ¬ (37 < 37 ∨ 39 ≤ 37) by omega) (am_fpU (show ¬ (38 < 37 ∨ 39 ≤ 38) by omega) (am_fpU (show ¬ (37 < 37 ∨ 39 ≤ 37) by omega) (am_fpU (show ¬ (37 < 37 ∨ 39 ≤ 37) by omega) (am_fpU (show ¬ (38 < 37 ∨ 39 ≤ 38) by omega) am_fp0))))))))))))
          · rw [ed, eo]; exact stp_e0
          · rw [ed, eo]; exact stp_e1
          · rw [g0]; exact (pk_us)
          · rw [g1]; exact (((pk_un (by omega))).trans pk_us)
          · rw [g2]; exact ((((pk_un (by omega))).trans (pk_un (by omega))).trans pk_us)
          · rw [g3]; exact (((((pk_un (by omega))).trans (pk_un (by omega))).trans (pk_un (by omega))).trans pk_us)
        · have hc22N : ¬ 9 ≤ (V / 1000 % 10) := fun z9q => hc22 ((nI_leI (a := 9) (b := (V / 1000 % 10)) (by omega) (by omega)).mpr z9q)
          refine aw_aload_n (npc := 41) rfl dX6_step_40 rfl ?_
          refine aw_get (npc := 44) dX6_step_41 rfl kf_X6_9 Y20.1 rfl ?_
          refine aw_iload_n (npc := 45) rfl dX6_step_44 rfl ?_
          refine aw_dup2 (npc := 46) rfl rfl dX6_step_45 rfl ?_
          refine aw_iald (npc := 47) (x := (upd (upd (upd wy 3 0) 2 0) 1 0) 0) (j := 0) dX6_step_46 rfl Y20.2 ⟨by decide, by decide⟩ (tl_at (by omega)) ?_
          refine aw_top (y := wy 0) ((((pk_un (by omega))).trans (pk_un (by omega))).trans (pk_un (by omega))) ?_
          refine aw_top (y := nI (V / 1000 % 10)) (w0) ?_
          refine aw_iconst (npc := 48) (v := 1) (by decide) dX6_step_47 rfl ?_
          refine aw_iaddV (npc := 49) (v := nI ((V / 1000 % 10) + 1)) dX6_step_48 rfl (nI_add _ 1) ?_
          refine aw_iast (npc := 50) (j := 0) dX6_step_49 rfl Y20.2 ⟨by decide, by decide⟩ (by rw [tl_len]; omega) rfl ?_
          have Y29 := wy_set (j := 0) (v := nI ((V / 1000 % 10) + 1)) Y20
          have F30 := qr_out (a := 38) (c := .inl (0, (tl 4 (upd (upd (upd wy 3 0) 2 0) 1 0)).set 0 (nI ((V / 1000 % 10) + 1)))) (by omega) F21
          refine aw_aload_n (npc := 51) rfl dX6_step_50 rfl ?_
          refine aw_dup (npc := 52) rfl dX6_step_51 rfl ?_
          refine aw_get (npc := 55) dX6_step_52 rfl kf_X6_15 Y29.1 rfl ?_
          refine aw_iload_n (npc := 56) rfl dX6_step_55 rfl ?_
          refine aw_iadd (npc := 57) dX6_step_56 rfl ?_
          refine aw_put (npc := 60) dX6_step_57 rfl kf_X6_15 Y29.1 (Nat.le_of_ble_eq_true rfl) (am_ok_int _) rfl ?_
          have Y31 := wy_p1 (v := ((((hs0 (dD N V)) - (9 * (N 15))) - (9 * (N 14))) - (9 * (N 13))) + (N 12)) Y29
          have F32 := qr_out (a := 37) (c := .inr (6, ([.ref 38, .int ((((hs0 (dD N V)) - (9 * (N 15))) - (9 * (N 14))) - (9 * (N 13))), .int ((((hs1 (dD N V)) + (9 * (N 19))) + (9 * (N 18))) + (9 * (N 17)))] : List Value).set 1 (.int (((((hs0 (dD N V)) - (9 * (N 15))) - (9 * (N 14))) - (9 * (N 13))) + (N 12))))) (by omega) F30
          refine aw_aload_n (npc := 61) rfl dX6_step_60 rfl ?_
          refine aw_dup (npc := 62) rfl dX6_step_61 rfl ?_
          refine aw_get (npc := 65) dX6_step_62 rfl kf_X6_19 Y31.1 rfl ?_
          refine aw_iload (npc := 67) rfl dX6_step_65 rfl ?_
          refine aw_isub (npc := 68) dX6_step_67 rfl ?_
          refine aw_put (npc := 71) dX6_step_68 rfl kf_X6_19 Y31.1 (Nat.le_of_ble_eq_true rfl) (am_ok_int _) rfl ?_
          have Y33 := wy_p2 (v := ((((hs1 (dD N V)) + (9 * (N 19))) + (9 * (N 18))) + (9 * (N 17))) - (N 16)) Y31
          have F34 := qr_out (a := 37) (c := .inr (6, ([.ref 38, .int (((((hs0 (dD N V)) - (9 * (N 15))) - (9 * (N 14))) - (9 * (N 13))) + (N 12)), .int ((((hs1 (dD N V)) + (9 * (N 19))) + (9 * (N 18))) + (9 * (N 17)))] : List Value).set 2 (.int (((((hs1 (dD N V)) + (9 * (N 19))) + (9 * (N 18))) + (9 * (N 17))) - (N 16))))) (by omega) F32
          refine aw_vret rfl dX6_step_71 ?_
          have q1 : (V / 100 % 10) = 9 := by omega
          have q2 : (V / 10 % 10) = 9 := by omega
          have q3 : (V % 10) = 9 := by omega
          have g0 : ((V + 1) / 1000 % 10) = (V / 1000 % 10) + 1 := by omega
          have g1 : ((V + 1) / 100 % 10) = 0 := by omega
          have g2 : ((V + 1) / 10 % 10) = 0 := by omega
          have g3 : ((V + 1) % 10) = 0 := by omega
          have ed : dD N (V + 1) = dN N ((V / 1000 % 10) + 1) 0 0 0 := by unfold dD; rw [g0, g1, g2, g3]
          have eo : dD N V = dN N (V / 1000 % 10) 9 9 9 := by unfold dD; rw [q1, q2, q3]
          refine hq _ ⟨_, wy_c ?_ ?_ Y33, ?_, ?_, ?_, ?_⟩ (am_fpU (show ¬ (37 < 37 ∨ 39 ≤ 37) by omega) (am_fpU (show ¬ (37 < 37 ∨ 39 ≤ 37) by omega) (am_fpU (show ¬ (38 < 37 ∨ 39 ≤ 38) by omega) (am_fpU (show ¬ (37 < 37 ∨ 39 ≤ 37) by omega) (am_fpU (show ¬ (37 < 37 ∨ 39 ≤ 37) by omega) (am_fpU (show ¬ (38 < 37 ∨ 39 ≤ 38) by omega) (am_fpU (show ¬ (37 < 37 ∨ 39 ≤ 37) by omega) (am_fpU (show ¬ (37 < 37 ∨ 39 ≤ 37) by omega) (am_fpU (show ¬ (38 < 37 ∨ 39 ≤ 38) by omega) (am_fpU (show ¬ (37 < 37 ∨ 39 ≤ 37) by omega) (am_fpU (show ¬ (37 < 37 ∨ 39 ≤ 37) by omega) (am_fpU (show ¬ (38 < 37 ∨ 39 ≤ 38) by omega) am_fp0))))))))))))
          · rw [ed, eo]; exact stp_d0
          · rw [ed, eo]; exact stp_d1
          · rw [g0]; exact (pk_us)
          · rw [g1]; exact (((pk_un (by omega))).trans pk_us)
          · rw [g2]; exact ((((pk_un (by omega))).trans (pk_un (by omega))).trans pk_us)
          · rw [g3]; exact (((((pk_un (by omega))).trans (pk_un (by omega))).trans (pk_un (by omega))).trans pk_us)
      · have hc15N : ¬ 9 ≤ (V / 100 % 10) := fun z9q => hc15 ((nI_leI (a := 9) (b := (V / 100 % 10)) (by omega) (by omega)).mpr z9q)
        refine aw_aload_n (npc := 41) rfl dX6_step_40 rfl ?_
        refine aw_get (npc := 44) dX6_step_41 rfl kf_X6_9 Y13.1 rfl ?_
        refine aw_iload_n (npc := 45) rfl dX6_step_44 rfl ?_
        refine aw_dup2 (npc := 46) rfl rfl dX6_step_45 rfl ?_
        refine aw_iald (npc := 47) (x := (upd (upd wy 3 0) 2 0) 1) (j := 1) dX6_step_46 rfl Y13.2 ⟨by decide, by decide⟩ (tl_at (by omega)) ?_
        refine aw_top (y := wy 1) (((pk_un (by omega))).trans (pk_un (by omega))) ?_
        refine aw_top (y := nI (V / 100 % 10)) (w1) ?_
        refine aw_iconst (npc := 48) (v := 1) (by decide) dX6_step_47 rfl ?_
        refine aw_iaddV (npc := 49) (v := nI ((V / 100 % 10) + 1)) dX6_step_48 rfl (nI_add _ 1) ?_
        refine aw_iast (npc := 50) (j := 1) dX6_step_49 rfl Y13.2 ⟨by decide, by decide⟩ (by rw [tl_len]; omega) rfl ?_
        have Y35 := wy_set (j := 1) (v := nI ((V / 100 % 10) + 1)) Y13
        have F36 := qr_out (a := 38) (c := .inl (0, (tl 4 (upd (upd wy 3 0) 2 0)).set 1 (nI ((V / 100 % 10) + 1)))) (by omega) F14
        refine aw_aload_n (npc := 51) rfl dX6_step_50 rfl ?_
        refine aw_dup (npc := 52) rfl dX6_step_51 rfl ?_
        refine aw_get (npc := 55) dX6_step_52 rfl kf_X6_15 Y35.1 rfl ?_
        refine aw_iload_n (npc := 56) rfl dX6_step_55 rfl ?_
        refine aw_iadd (npc := 57) dX6_step_56 rfl ?_
        refine aw_put (npc := 60) dX6_step_57 rfl kf_X6_15 Y35.1 (Nat.le_of_ble_eq_true rfl) (am_ok_int _) rfl ?_
        have Y37 := wy_p1 (v := (((hs0 (dD N V)) - (9 * (N 15))) - (9 * (N 14))) + (N 13)) Y35
        have F38 := qr_out (a := 37) (c := .inr (6, ([.ref 38, .int (((hs0 (dD N V)) - (9 * (N 15))) - (9 * (N 14))), .int (((hs1 (dD N V)) + (9 * (N 19))) + (9 * (N 18)))] : List Value).set 1 (.int ((((hs0 (dD N V)) - (9 * (N 15))) - (9 * (N 14))) + (N 13))))) (by omega) F36
        refine aw_aload_n (npc := 61) rfl dX6_step_60 rfl ?_
        refine aw_dup (npc := 62) rfl dX6_step_61 rfl ?_
        refine aw_get (npc := 65) dX6_step_62 rfl kf_X6_19 Y37.1 rfl ?_
        refine aw_iload (npc := 67) rfl dX6_step_65 rfl ?_
        refine aw_isub (npc := 68) dX6_step_67 rfl ?_
        refine aw_put (npc := 71) dX6_step_68 rfl kf_X6_19 Y37.1 (Nat.le_of_ble_eq_true rfl) (am_ok_int _) rfl ?_
        have Y39 := wy_p2 (v := (((hs1 (dD N V)) + (9 * (N 19))) + (9 * (N 18))) - (N 17)) Y37
        have F40 := qr_out (a := 37) (c := .inr (6, ([.ref 38, .int ((((hs0 (dD N V)) - (9 * (N 15))) - (9 * (N 14))) + (N 13)), .int (((hs1 (dD N V)) + (9 * (N 19))) + (9 * (N 18)))] : List Value).set 2 (.int ((((hs1 (dD N V)) + (9 * (N 19))) + (9 * (N 18))) - (N 17))))) (by omega) F38
        refine aw_vret rfl dX6_step_71 ?_
        have q2 : (V / 10 % 10) = 9 := by omega
        have q3 : (V % 10) = 9 := by omega
        have g0 : ((V + 1) / 1000 % 10) = (V / 1000 % 10) := by omega
        have g1 : ((V + 1) / 100 % 10) = (V / 100 % 10) + 1 := by omega
        have g2 : ((V + 1) / 10 % 10) = 0 := by omega
        have g3 : ((V + 1) % 10) = 0 := by omega
        have ed : dD N (V + 1) = dN N (V / 1000 % 10) ((V / 100 % 10) + 1) 0 0 := by unfold dD; rw [g0, g1, g2, g3]
        have eo : dD N V = dN N (V / 1000 % 10) (V / 100 % 10) 9 9 := by unfold dD; rw [q2, q3]
        refine hq _ ⟨_, wy_c ?_ ?_ Y39, ?_, ?_, ?_, ?_⟩ (am_fpU (show ¬ (37 < 37 ∨ 39 ≤ 37) by omega) (am_fpU (show ¬ (37 < 37 ∨ 39 ≤ 37) by omega) (am_fpU (show ¬ (38 < 37 ∨ 39 ≤ 38) by omega) (am_fpU (show ¬ (37 < 37 ∨ 39 ≤ 37) by omega) (am_fpU (show ¬ (37 < 37 ∨ 39 ≤ 37) by omega) (am_fpU (show ¬ (38 < 37 ∨ 39 ≤ 38) by omega) (am_fpU (show ¬ (37 < 37 ∨ 39 ≤ 37) by omega) (am_fpU (show ¬ (37 < 37 ∨ 39 ≤ 37) by omega) (am_fpU (show ¬ (38 < 37 ∨ 39 ≤ 38) by omega) am_fp0)))))))))
        · rw [ed, eo]; exact stp_c0
        · rw [ed, eo]; exact stp_c1
        · rw [g0]; exact ((((pk_un (by omega))).trans (pk_un (by omega))).trans (pk_un (by omega))).trans w0
        · rw [g1]; exact (pk_us)
        · rw [g2]; exact (((pk_un (by omega))).trans pk_us)
        · rw [g3]; exact ((((pk_un (by omega))).trans (pk_un (by omega))).trans pk_us)
    · have hc8N : ¬ 9 ≤ (V / 10 % 10) := fun z9q => hc8 ((nI_leI (a := 9) (b := (V / 10 % 10)) (by omega) (by omega)).mpr z9q)
      refine aw_aload_n (npc := 41) rfl dX6_step_40 rfl ?_
      refine aw_get (npc := 44) dX6_step_41 rfl kf_X6_9 Y6.1 rfl ?_
      refine aw_iload_n (npc := 45) rfl dX6_step_44 rfl ?_
      refine aw_dup2 (npc := 46) rfl rfl dX6_step_45 rfl ?_
      refine aw_iald (npc := 47) (x := (upd wy 3 0) 2) (j := 2) dX6_step_46 rfl Y6.2 ⟨by decide, by decide⟩ (tl_at (by omega)) ?_
      refine aw_top (y := wy 2) ((pk_un (by omega))) ?_
      refine aw_top (y := nI (V / 10 % 10)) (w2) ?_
      refine aw_iconst (npc := 48) (v := 1) (by decide) dX6_step_47 rfl ?_
      refine aw_iaddV (npc := 49) (v := nI ((V / 10 % 10) + 1)) dX6_step_48 rfl (nI_add _ 1) ?_
      refine aw_iast (npc := 50) (j := 2) dX6_step_49 rfl Y6.2 ⟨by decide, by decide⟩ (by rw [tl_len]; omega) rfl ?_
      have Y41 := wy_set (j := 2) (v := nI ((V / 10 % 10) + 1)) Y6
      have F42 := qr_out (a := 38) (c := .inl (0, (tl 4 (upd wy 3 0)).set 2 (nI ((V / 10 % 10) + 1)))) (by omega) F7
      refine aw_aload_n (npc := 51) rfl dX6_step_50 rfl ?_
      refine aw_dup (npc := 52) rfl dX6_step_51 rfl ?_
      refine aw_get (npc := 55) dX6_step_52 rfl kf_X6_15 Y41.1 rfl ?_
      refine aw_iload_n (npc := 56) rfl dX6_step_55 rfl ?_
      refine aw_iadd (npc := 57) dX6_step_56 rfl ?_
      refine aw_put (npc := 60) dX6_step_57 rfl kf_X6_15 Y41.1 (Nat.le_of_ble_eq_true rfl) (am_ok_int _) rfl ?_
      have Y43 := wy_p1 (v := ((hs0 (dD N V)) - (9 * (N 15))) + (N 14)) Y41
      have F44 := qr_out (a := 37) (c := .inr (6, ([.ref 38, .int ((hs0 (dD N V)) - (9 * (N 15))), .int ((hs1 (dD N V)) + (9 * (N 19)))] : List Value).set 1 (.int (((hs0 (dD N V)) - (9 * (N 15))) + (N 14))))) (by omega) F42
      refine aw_aload_n (npc := 61) rfl dX6_step_60 rfl ?_
      refine aw_dup (npc := 62) rfl dX6_step_61 rfl ?_
      refine aw_get (npc := 65) dX6_step_62 rfl kf_X6_19 Y43.1 rfl ?_
      refine aw_iload (npc := 67) rfl dX6_step_65 rfl ?_
      refine aw_isub (npc := 68) dX6_step_67 rfl ?_
      refine aw_put (npc := 71) dX6_step_68 rfl kf_X6_19 Y43.1 (Nat.le_of_ble_eq_true rfl) (am_ok_int _) rfl ?_
      have Y45 := wy_p2 (v := ((hs1 (dD N V)) + (9 * (N 19))) - (N 18)) Y43
      have F46 := qr_out (a := 37) (c := .inr (6, ([.ref 38, .int (((hs0 (dD N V)) - (9 * (N 15))) + (N 14)), .int ((hs1 (dD N V)) + (9 * (N 19)))] : List Value).set 2 (.int (((hs1 (dD N V)) + (9 * (N 19))) - (N 18))))) (by omega) F44
      refine aw_vret rfl dX6_step_71 ?_
      have q3 : (V % 10) = 9 := by omega
      have g0 : ((V + 1) / 1000 % 10) = (V / 1000 % 10) := by omega
      have g1 : ((V + 1) / 100 % 10) = (V / 100 % 10) := by omega
      have g2 : ((V + 1) / 10 % 10) = (V / 10 % 10) + 1 := by omega
      have g3 : ((V + 1) % 10) = 0 := by omega
      have ed : dD N (V + 1) = dN N (V / 1000 % 10) (V / 100 % 10) ((V / 10 % 10) + 1) 0 := by unfold dD; rw [g0, g1, g2, g3]
      have eo : dD N V = dN N (V / 1000 % 10) (V / 100 % 10) (V / 10 % 10) 9 := by unfold dD; rw [q3]
      refine hq _ ⟨_, wy_c ?_ ?_ Y45, ?_, ?_, ?_, ?_⟩ (am_fpU (show ¬ (37 < 37 ∨ 39 ≤ 37) by omega) (am_fpU (show ¬ (37 < 37 ∨ 39 ≤ 37) by omega) (am_fpU (show ¬ (38 < 37 ∨ 39 ≤ 38) by omega) (am_fpU (show ¬ (37 < 37 ∨ 39 ≤ 37) by omega) (am_fpU (show ¬ (37 < 37 ∨ 39 ≤ 37) by omega) (am_fpU (show ¬ (38 < 37 ∨ 39 ≤ 38) by omega) am_fp0))))))
      · rw [ed, eo]; exact stp_b0
      · rw [ed, eo]; exact stp_b1
      · rw [g0]; exact (((pk_un (by omega))).trans (pk_un (by omega))).trans w0
      · rw [g1]; exact (((pk_un (by omega))).trans (pk_un (by omega))).trans w1
      · rw [g2]; exact (pk_us)
      · rw [g3]; exact (((pk_un (by omega))).trans pk_us)
  · have hc1N : ¬ 9 ≤ (V % 10) := fun z9q => hc1 ((nI_leI (a := 9) (b := (V % 10)) (by omega) (by omega)).mpr z9q)
    refine aw_aload_n (npc := 41) rfl dX6_step_40 rfl ?_
    refine aw_get (npc := 44) dX6_step_41 rfl kf_X6_9 Y.1 rfl ?_
    refine aw_iload_n (npc := 45) rfl dX6_step_44 rfl ?_
    refine aw_dup2 (npc := 46) rfl rfl dX6_step_45 rfl ?_
    refine aw_iald (npc := 47) (x := wy 3) (j := 3) dX6_step_46 rfl Y.2 ⟨by decide, by decide⟩ (tl_at (by omega)) ?_
    refine aw_top (y := nI (V % 10)) (w3) ?_
    refine aw_iconst (npc := 48) (v := 1) (by decide) dX6_step_47 rfl ?_
    refine aw_iaddV (npc := 49) (v := nI ((V % 10) + 1)) dX6_step_48 rfl (nI_add _ 1) ?_
    refine aw_iast (npc := 50) (j := 3) dX6_step_49 rfl Y.2 ⟨by decide, by decide⟩ (by rw [tl_len]; omega) rfl ?_
    have Y47 := wy_set (j := 3) (v := nI ((V % 10) + 1)) Y
    have F48 := qr_out (a := 38) (c := .inl (0, (tl 4 wy).set 3 (nI ((V % 10) + 1)))) (by omega) F
    refine aw_aload_n (npc := 51) rfl dX6_step_50 rfl ?_
    refine aw_dup (npc := 52) rfl dX6_step_51 rfl ?_
    refine aw_get (npc := 55) dX6_step_52 rfl kf_X6_15 Y47.1 rfl ?_
    refine aw_iload_n (npc := 56) rfl dX6_step_55 rfl ?_
    refine aw_iadd (npc := 57) dX6_step_56 rfl ?_
    refine aw_put (npc := 60) dX6_step_57 rfl kf_X6_15 Y47.1 (Nat.le_of_ble_eq_true rfl) (am_ok_int _) rfl ?_
    have Y49 := wy_p1 (v := (hs0 (dD N V)) + (N 15)) Y47
    have F50 := qr_out (a := 37) (c := .inr (6, ([.ref 38, .int (hs0 (dD N V)), .int (hs1 (dD N V))] : List Value).set 1 (.int ((hs0 (dD N V)) + (N 15))))) (by omega) F48
    refine aw_aload_n (npc := 61) rfl dX6_step_60 rfl ?_
    refine aw_dup (npc := 62) rfl dX6_step_61 rfl ?_
    refine aw_get (npc := 65) dX6_step_62 rfl kf_X6_19 Y49.1 rfl ?_
    refine aw_iload (npc := 67) rfl dX6_step_65 rfl ?_
    refine aw_isub (npc := 68) dX6_step_67 rfl ?_
    refine aw_put (npc := 71) dX6_step_68 rfl kf_X6_19 Y49.1 (Nat.le_of_ble_eq_true rfl) (am_ok_int _) rfl ?_
    have Y51 := wy_p2 (v := (hs1 (dD N V)) - (N 19)) Y49
    have F52 := qr_out (a := 37) (c := .inr (6, ([.ref 38, .int ((hs0 (dD N V)) + (N 15)), .int (hs1 (dD N V))] : List Value).set 2 (.int ((hs1 (dD N V)) - (N 19))))) (by omega) F50
    refine aw_vret rfl dX6_step_71 ?_
    have g0 : ((V + 1) / 1000 % 10) = (V / 1000 % 10) := by omega
    have g1 : ((V + 1) / 100 % 10) = (V / 100 % 10) := by omega
    have g2 : ((V + 1) / 10 % 10) = (V / 10 % 10) := by omega
    have g3 : ((V + 1) % 10) = (V % 10) + 1 := by omega
    have ed : dD N (V + 1) = dN N (V / 1000 % 10) (V / 100 % 10) (V / 10 % 10) ((V % 10) + 1) := by unfold dD; rw [g0, g1, g2, g3]
    have eo : dD N V = dN N (V / 1000 % 10) (V / 100 % 10) (V / 10 % 10) (V % 10) := by unfold dD; rfl
    refine hq _ ⟨_, wy_c ?_ ?_ Y51, ?_, ?_, ?_, ?_⟩ (am_fpU (show ¬ (37 < 37 ∨ 39 ≤ 37) by omega) (am_fpU (show ¬ (37 < 37 ∨ 39 ≤ 37) by omega) (am_fpU (show ¬ (38 < 37 ∨ 39 ≤ 38) by omega) am_fp0)))
    · rw [ed, eo]; exact stp_a0
    · rw [ed, eo]; exact stp_a1
    · rw [g0]; exact ((pk_un (by omega))).trans w0
    · rw [g1]; exact ((pk_un (by omega))).trans w1
    · rw [g2]; exact ((pk_un (by omega))).trans w2
    · rw [g3]; exact (pk_us)
set_option maxHeartbeats 4000000 in
set_option maxRecDepth 100000 in
theorem c_spare {X : List Int32} {d rc rs n : Nat} {Q : am_Q} {h : am_H} {N : Nat → Int32} {tx : List Value} {lk mv : Nat → Int32} {V : Nat} (F : QR 1 N tx lk mv h) (Y : WV N V h) (hq : Q (some (.int (spF N (dD N V)))) n h) : AW X mX6_spare (d + 3) rc rs 0 [some (.ref 37), some (.ref 1)] [] n h Q := by
  obtain ⟨wy, Y, w0, w1, w2, w3⟩ := Y
  refine aw_aload_n (npc := 1) rfl dX6_spare_0 rfl ?_
  refine aw_get (npc := 4) dX6_spare_1 rfl kf_X6_15 Y.1 rfl ?_
  refine aw_aload_n (npc := 5) rfl dX6_spare_4 rfl ?_
  refine aw_get (npc := 8) dX6_spare_5 rfl kf_X6_45 F.1 rfl ?_
  refine aw_iconst (npc := 9) (v := 0) (by decide) dX6_spare_8 rfl ?_
  refine aw_iald (npc := 10) (x := N 20) (j := 0) dX6_spare_9 rfl F.2.2.2.1 ⟨by decide, by decide⟩ (tl_at (by omega)) ?_
  refine aw_isub (npc := 11) dX6_spare_10 rfl ?_
  refine aw_aload_n (npc := 12) rfl dX6_spare_11 rfl ?_
  refine aw_get (npc := 15) dX6_spare_12 rfl kf_X6_19 Y.1 rfl ?_
  refine aw_aload_n (npc := 16) rfl dX6_spare_15 rfl ?_
  refine aw_get (npc := 19) dX6_spare_16 rfl kf_X6_45 F.1 rfl ?_
  refine aw_iconst (npc := 20) (v := 1) (by decide) dX6_spare_19 rfl ?_
  refine aw_iald (npc := 21) (x := N 21) (j := 1) dX6_spare_20 rfl F.2.2.2.1 ⟨by decide, by decide⟩ (tl_at (by omega)) ?_
  refine aw_isub (npc := 22) dX6_spare_21 rfl ?_
  refine aw_mmin (npc := 25) dX6_spare_22 rfl kmm_X6_48 kmx_min (Nat.le_of_ble_eq_true rfl) ?_
  refine aw_iret rfl dX6_spare_25 ?_
  exact hq
set_option maxHeartbeats 4000000 in
set_option maxRecDepth 100000 in
theorem c_dist {X : List Int32} {d rc rs n : Nat} {Q : am_Q} {h : am_H} {N : Nat → Int32} {tx : List Value} {lk mv : Nat → Int32} {V : Nat} (F : QR 1 N tx lk mv h) (Y : WV N V h) (hq : Q (some (.int (diF N (dD N V)))) n h) : AW X mX6_distanceTo (d + 3) rc rs 0 [some (.ref 37), some (.ref 1), none, none] [] n h Q := by
  obtain ⟨wy, Y, w0, w1, w2, w3⟩ := Y
  refine aw_iconst (npc := 1) (v := 0) (by decide) dX6_distanceTo_0 rfl ?_
  refine aw_istore_n (npc := 2) (L' := [some (.ref 37), some (.ref 1), some (.int 0), none]) dX6_distanceTo_1 rfl (by decide) rfl rfl ?_
  refine aw_iconst (npc := 3) (v := 0) (by decide) dX6_distanceTo_2 rfl ?_
  refine aw_istore_n (npc := 4) (L' := [some (.ref 37), some (.ref 1), some (.int 0), some (.int 0)]) dX6_distanceTo_3 rfl (by decide) rfl rfl ?_
  refine aw_iload_n (npc := 5) rfl dX6_distanceTo_4 rfl ?_
  refine aw_iconst (npc := 6) (v := 4) (by decide) dX6_distanceTo_5 rfl ?_
  refine aw_icmp_ge (npc := 9) (tgt := 34) dX6_distanceTo_6 rfl (by decide) (fun hc => absurd hc (by decide)) (fun _ => ?_)
  refine aw_iload_n (npc := 10) rfl dX6_distanceTo_9 rfl ?_
  refine aw_aload_n (npc := 11) rfl dX6_distanceTo_10 rfl ?_
  refine aw_get (npc := 14) dX6_distanceTo_11 rfl kf_X6_9 Y.1 rfl ?_
  refine aw_iload_n (npc := 15) rfl dX6_distanceTo_14 rfl ?_
  refine aw_iald (npc := 16) (x := wy 0) (j := 0) dX6_distanceTo_15 rfl Y.2 ⟨by decide, by decide⟩ (tl_at (by omega)) ?_
  refine aw_top (y := nI (V / 1000 % 10)) (w0) ?_
  refine aw_aload_n (npc := 17) rfl dX6_distanceTo_16 rfl ?_
  refine aw_get (npc := 20) dX6_distanceTo_17 rfl kf_X6_53 F.1 rfl ?_
  refine aw_iload_n (npc := 21) rfl dX6_distanceTo_20 rfl ?_
  refine aw_iald (npc := 22) (x := N 8) (j := 0) dX6_distanceTo_21 rfl F.2.1 ⟨by decide, by decide⟩ (tl_at (by omega)) ?_
  refine aw_isub (npc := 23) dX6_distanceTo_22 rfl ?_
  refine aw_mabs (npc := 26) dX6_distanceTo_23 rfl kmm_X6_56 kmx_abs (Nat.le_of_ble_eq_true rfl) ?_
  refine aw_top (y := abD (nI (V / 1000 % 10)) (N 8)) (rfl) ?_
  refine aw_iadd (npc := 27) dX6_distanceTo_26 rfl ?_
  refine aw_istore_n (npc := 28) (L' := [some (.ref 37), some (.ref 1), some (.int (0 + (abD (nI (V / 1000 % 10)) (N 8)))), some (.int 0)]) dX6_distanceTo_27 rfl (by decide) rfl rfl ?_
  refine aw_iinc (npc := 31) (v := 1) (L' := [some (.ref 37), some (.ref 1), some (.int (0 + (abD (nI (V / 1000 % 10)) (N 8)))), some (.int 1)]) dX6_distanceTo_28 rfl rfl (by decide) (by decide) rfl rfl ?_
  refine aw_goto (npc := 4) dX6_distanceTo_31 (by decide) ?_
  refine aw_iload_n (npc := 5) rfl dX6_distanceTo_4 rfl ?_
  refine aw_iconst (npc := 6) (v := 4) (by decide) dX6_distanceTo_5 rfl ?_
  refine aw_icmp_ge (npc := 9) (tgt := 34) dX6_distanceTo_6 rfl (by decide) (fun hc => absurd hc (by decide)) (fun _ => ?_)
  refine aw_iload_n (npc := 10) rfl dX6_distanceTo_9 rfl ?_
  refine aw_aload_n (npc := 11) rfl dX6_distanceTo_10 rfl ?_
  refine aw_get (npc := 14) dX6_distanceTo_11 rfl kf_X6_9 Y.1 rfl ?_
  refine aw_iload_n (npc := 15) rfl dX6_distanceTo_14 rfl ?_
  refine aw_iald (npc := 16) (x := wy 1) (j := 1) dX6_distanceTo_15 rfl Y.2 ⟨by decide, by decide⟩ (tl_at (by omega)) ?_
  refine aw_top (y := nI (V / 100 % 10)) (w1) ?_
  refine aw_aload_n (npc := 17) rfl dX6_distanceTo_16 rfl ?_
  refine aw_get (npc := 20) dX6_distanceTo_17 rfl kf_X6_53 F.1 rfl ?_
  refine aw_iload_n (npc := 21) rfl dX6_distanceTo_20 rfl ?_
  refine aw_iald (npc := 22) (x := N 9) (j := 1) dX6_distanceTo_21 rfl F.2.1 ⟨by decide, by decide⟩ (tl_at (by omega)) ?_
  refine aw_isub (npc := 23) dX6_distanceTo_22 rfl ?_
  refine aw_mabs (npc := 26) dX6_distanceTo_23 rfl kmm_X6_56 kmx_abs (Nat.le_of_ble_eq_true rfl) ?_
  refine aw_top (y := abD (nI (V / 100 % 10)) (N 9)) (rfl) ?_
  refine aw_iadd (npc := 27) dX6_distanceTo_26 rfl ?_
  refine aw_istore_n (npc := 28) (L' := [some (.ref 37), some (.ref 1), some (.int ((0 + (abD (nI (V / 1000 % 10)) (N 8))) + (abD (nI (V / 100 % 10)) (N 9)))), some (.int 1)]) dX6_distanceTo_27 rfl (by decide) rfl rfl ?_
  refine aw_iinc (npc := 31) (v := 2) (L' := [some (.ref 37), some (.ref 1), some (.int ((0 + (abD (nI (V / 1000 % 10)) (N 8))) + (abD (nI (V / 100 % 10)) (N 9)))), some (.int 2)]) dX6_distanceTo_28 rfl rfl (by decide) (by decide) rfl rfl ?_
  refine aw_goto (npc := 4) dX6_distanceTo_31 (by decide) ?_
  refine aw_iload_n (npc := 5) rfl dX6_distanceTo_4 rfl ?_
  refine aw_iconst (npc := 6) (v := 4) (by decide) dX6_distanceTo_5 rfl ?_
  refine aw_icmp_ge (npc := 9) (tgt := 34) dX6_distanceTo_6 rfl (by decide) (fun hc => absurd hc (by decide)) (fun _ => ?_)
  refine aw_iload_n (npc := 10) rfl dX6_distanceTo_9 rfl ?_
  refine aw_aload_n (npc := 11) rfl dX6_distanceTo_10 rfl ?_
  refine aw_get (npc := 14) dX6_distanceTo_11 rfl kf_X6_9 Y.1 rfl ?_
  refine aw_iload_n (npc := 15) rfl dX6_distanceTo_14 rfl ?_
  refine aw_iald (npc := 16) (x := wy 2) (j := 2) dX6_distanceTo_15 rfl Y.2 ⟨by decide, by decide⟩ (tl_at (by omega)) ?_
  refine aw_top (y := nI (V / 10 % 10)) (w2) ?_
  refine aw_aload_n (npc := 17) rfl dX6_distanceTo_16 rfl ?_
  refine aw_get (npc := 20) dX6_distanceTo_17 rfl kf_X6_53 F.1 rfl ?_
  refine aw_iload_n (npc := 21) rfl dX6_distanceTo_20 rfl ?_
  refine aw_iald (npc := 22) (x := N 10) (j := 2) dX6_distanceTo_21 rfl F.2.1 ⟨by decide, by decide⟩ (tl_at (by omega)) ?_
  refine aw_isub (npc := 23) dX6_distanceTo_22 rfl ?_
  refine aw_mabs (npc := 26) dX6_distanceTo_23 rfl kmm_X6_56 kmx_abs (Nat.le_of_ble_eq_true rfl) ?_
  refine aw_top (y := abD (nI (V / 10 % 10)) (N 10)) (rfl) ?_
  refine aw_iadd (npc := 27) dX6_distanceTo_26 rfl ?_
  refine aw_istore_n (npc := 28) (L' := [some (.ref 37), some (.ref 1), some (.int (((0 + (abD (nI (V / 1000 % 10)) (N 8))) + (abD (nI (V / 100 % 10)) (N 9))) + (abD (nI (V / 10 % 10)) (N 10)))), some (.int 2)]) dX6_distanceTo_27 rfl (by decide) rfl rfl ?_
  refine aw_iinc (npc := 31) (v := 3) (L' := [some (.ref 37), some (.ref 1), some (.int (((0 + (abD (nI (V / 1000 % 10)) (N 8))) + (abD (nI (V / 100 % 10)) (N 9))) + (abD (nI (V / 10 % 10)) (N 10)))), some (.int 3)]) dX6_distanceTo_28 rfl rfl (by decide) (by decide) rfl rfl ?_
  refine aw_goto (npc := 4) dX6_distanceTo_31 (by decide) ?_
  refine aw_iload_n (npc := 5) rfl dX6_distanceTo_4 rfl ?_
  refine aw_iconst (npc := 6) (v := 4) (by decide) dX6_distanceTo_5 rfl ?_
  refine aw_icmp_ge (npc := 9) (tgt := 34) dX6_distanceTo_6 rfl (by decide) (fun hc => absurd hc (by decide)) (fun _ => ?_)
  refine aw_iload_n (npc := 10) rfl dX6_distanceTo_9 rfl ?_
  refine aw_aload_n (npc := 11) rfl dX6_distanceTo_10 rfl ?_
  refine aw_get (npc := 14) dX6_distanceTo_11 rfl kf_X6_9 Y.1 rfl ?_
  refine aw_iload_n (npc := 15) rfl dX6_distanceTo_14 rfl ?_
  refine aw_iald (npc := 16) (x := wy 3) (j := 3) dX6_distanceTo_15 rfl Y.2 ⟨by decide, by decide⟩ (tl_at (by omega)) ?_
  refine aw_top (y := nI (V % 10)) (w3) ?_
  refine aw_aload_n (npc := 17) rfl dX6_distanceTo_16 rfl ?_
  refine aw_get (npc := 20) dX6_distanceTo_17 rfl kf_X6_53 F.1 rfl ?_
  refine aw_iload_n (npc := 21) rfl dX6_distanceTo_20 rfl ?_
  refine aw_iald (npc := 22) (x := N 11) (j := 3) dX6_distanceTo_21 rfl F.2.1 ⟨by decide, by decide⟩ (tl_at (by omega)) ?_
  refine aw_isub (npc := 23) dX6_distanceTo_22 rfl ?_
  refine aw_mabs (npc := 26) dX6_distanceTo_23 rfl kmm_X6_56 kmx_abs (Nat.le_of_ble_eq_true rfl) ?_
  refine aw_top (y := abD (nI (V % 10)) (N 11)) (rfl) ?_
  refine aw_iadd (npc := 27) dX6_distanceTo_26 rfl ?_
  refine aw_istore_n (npc := 28) (L' := [some (.ref 37), some (.ref 1), some (.int ((((0 + (abD (nI (V / 1000 % 10)) (N 8))) + (abD (nI (V / 100 % 10)) (N 9))) + (abD (nI (V / 10 % 10)) (N 10))) + (abD (nI (V % 10)) (N 11)))), some (.int 3)]) dX6_distanceTo_27 rfl (by decide) rfl rfl ?_
  refine aw_iinc (npc := 31) (v := 4) (L' := [some (.ref 37), some (.ref 1), some (.int ((((0 + (abD (nI (V / 1000 % 10)) (N 8))) + (abD (nI (V / 100 % 10)) (N 9))) + (abD (nI (V / 10 % 10)) (N 10))) + (abD (nI (V % 10)) (N 11)))), some (.int 4)]) dX6_distanceTo_28 rfl rfl (by decide) (by decide) rfl rfl ?_
  refine aw_goto (npc := 4) dX6_distanceTo_31 (by decide) ?_
  refine aw_iload_n (npc := 5) rfl dX6_distanceTo_4 rfl ?_
  refine aw_iconst (npc := 6) (v := 4) (by decide) dX6_distanceTo_5 rfl ?_
  refine aw_icmp_ge (npc := 9) (tgt := 34) dX6_distanceTo_6 rfl (by decide) (fun _ => ?_) (fun hc => absurd (by decide) hc)
  refine aw_iload_n (npc := 35) rfl dX6_distanceTo_34 rfl ?_
  refine aw_iret rfl dX6_distanceTo_35 ?_
  exact hq
