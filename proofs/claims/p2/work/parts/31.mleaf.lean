set_option maxHeartbeats 4000000 in
set_option maxRecDepth 100000 in
theorem m_isFriend {X : List Int32} {d rc rs n : Nat} {Q : am_Q} {o N : Nat → Int32} {a : Nat → Nat → Int32} {h : am_H} {f : Int32} (F : MR o N a h) (k1 : wi f 0 (N 1 - 1) → Q (some (.int 1)) n h) (k0 : ¬ wi f 0 (N 1 - 1) → Q (some (.int 0)) n h) : AW X mX8_isFriend (d + 2) rc rs 0 [some (.ref 69), some (.int f)] [] n h Q := by
  refine aw_iload_n (npc := 1) rfl dX8_isFriend_0 rfl ?_
  refine aw_iconst (npc := 2) (v := 0) (by decide) dX8_isFriend_1 rfl ?_
  refine aw_aload_n (npc := 3) rfl dX8_isFriend_2 rfl ?_
  refine aw_get (npc := 6) dX8_isFriend_3 rfl kf_X8_9 F.1 rfl ?_
  refine aw_iconst (npc := 7) (v := 1) (by decide) dX8_isFriend_6 rfl ?_
  refine aw_iald (npc := 8) (x := N 1) (j := 1) dX8_isFriend_7 rfl F.2.1 ⟨by decide, by decide⟩ (tl_at (by omega)) ?_
  refine aw_iconst (npc := 9) (v := 1) (by decide) dX8_isFriend_8 rfl ?_
  refine aw_isub (npc := 10) dX8_isFriend_9 rfl ?_
  refine aw_callS (npc := 13) (N := mX8_in) (mc := 0) (ms := 0) (A := [.int f, .int 0, .int ((N 1) - 1)]) (S := []) (L0 := [some (.int f), some (.int 0), some (.int ((N 1) - 1))]) dX8_isFriend_10 rfl km_X8_in kk_X8_83 rfl ⟨rfl, by decide⟩ rfl (Nat.le_of_ble_eq_true rfl) (Nat.zero_add _) (Nat.zero_add _) rfl ?_
  refine c_X8_in (fun hw1 => ?_) (fun hw1 => ?_)
  · refine aw_re (S' := [.int 1]) rfl ?_
    refine aw_zret rfl rfl dX8_isFriend_13 ?_
    exact k1 hw1
  · refine aw_re (S' := [.int 0]) rfl ?_
    refine aw_zret rfl rfl dX8_isFriend_13 ?_
    exact k0 hw1
set_option maxHeartbeats 4000000 in
set_option maxRecDepth 100000 in
theorem m_draw {X : List Int32} {d rc rs n : Nat} {Q : am_Q} {o N : Nat → Int32} {a : Nat → Nat → Int32} {h : am_H} (F : MR o N a h) (hq : ∀ h9, MR o (drawN N) a h9 → am_fb 69 92 h9 h → Q (some (.int (drawV N))) n h9) : AW X mX8_draw (d + 0) rc rs 0 [some (.ref 69)] [] n h Q := by
  refine aw_aload_n (npc := 1) rfl dX8_draw_0 rfl ?_
  refine aw_get (npc := 4) dX8_draw_1 rfl kf_X8_9 F.1 rfl ?_
  refine aw_iconst (npc := 5) (v := 0) (by decide) dX8_draw_4 rfl ?_
  refine aw_aload_n (npc := 6) rfl dX8_draw_5 rfl ?_
  refine aw_get (npc := 9) dX8_draw_6 rfl kf_X8_9 F.1 rfl ?_
  refine aw_iconst (npc := 10) (v := 0) (by decide) dX8_draw_9 rfl ?_
  refine aw_iald (npc := 11) (x := N 0) (j := 0) dX8_draw_10 rfl F.2.1 ⟨by decide, by decide⟩ (tl_at (by omega)) ?_
  refine aw_ldc (npc := 13) kc_X8_138 dX8_draw_11 rfl ?_
  refine aw_imul (npc := 14) dX8_draw_13 rfl ?_
  refine aw_sipush (npc := 17) (v := 12345) (by decide) dX8_draw_14 rfl ?_
  refine aw_iadd (npc := 18) dX8_draw_17 rfl ?_
  refine aw_iast (npc := 19) (j := 0) dX8_draw_18 rfl F.2.1 ⟨by decide, by decide⟩ (by rw [tl_len]; omega) rfl ?_
  have F1 := mr_70 (j := 0) (v := ((N 0) * 1103515245) + 12345) F
  refine aw_aload_n (npc := 20) rfl dX8_draw_19 rfl ?_
  refine aw_get (npc := 23) dX8_draw_20 rfl kf_X8_9 F1.1 rfl ?_
  refine aw_iconst (npc := 24) (v := 0) (by decide) dX8_draw_23 rfl ?_
  refine aw_iald (npc := 25) (x := (upd N 0 (((N 0) * 1103515245) + 12345)) 0) (j := 0) dX8_draw_24 rfl F1.2.1 ⟨by decide, by decide⟩ (tl_at (by omega)) ?_
  refine aw_top (y := ((N 0) * 1103515245) + 12345) (pk_us) ?_
  refine aw_bipush (npc := 27) (v := 8) (by decide) dX8_draw_25 rfl ?_
  refine aw_iushr (npc := 28) dX8_draw_27 rfl ?_
  refine aw_iret rfl dX8_draw_28 ?_
  exact hq _ F1 (am_fbU (by omega) am_fb0)
set_option maxHeartbeats 4000000 in
set_option maxRecDepth 100000 in
theorem m_has0 {X : List Int32} {d rc rs n : Nat} {Q : am_Q} {o N : Nat → Int32} {a : Nat → Nat → Int32} {h : am_H} (F : MR o N a h) (hq : Q (some (.int (hs0 N))) n h) : AW X mX8_has (d + 2) rc rs 0 [some (.ref 69), some (.int 0), none, none, none] [] n h Q := by
  refine aw_iconst (npc := 1) (v := 0) (by decide) dX8_has_0 rfl ?_
  refine aw_istore_n (npc := 2) (L' := [some (.ref 69), some (.int 0), some (.int 0), none, none]) dX8_has_1 rfl (by decide) rfl rfl ?_
  refine aw_iconst (npc := 3) (v := 0) (by decide) dX8_has_2 rfl ?_
  refine aw_istore_n (npc := 4) (L' := [some (.ref 69), some (.int 0), some (.int 0), some (.int 0), none]) dX8_has_3 rfl (by decide) rfl rfl ?_
  refine aw_iload_n (npc := 5) rfl dX8_has_4 rfl ?_
  refine aw_iconst (npc := 6) (v := 4) (by decide) dX8_has_5 rfl ?_
  refine aw_icmp_ge (npc := 9) (tgt := 57) dX8_has_6 rfl (by decide) (fun hc => absurd hc (by decide)) (fun _ => ?_)
  refine aw_aload_n (npc := 10) rfl dX8_has_9 rfl ?_
  refine aw_get (npc := 13) dX8_has_10 rfl kf_X8_9 F.1 rfl ?_
  refine aw_bipush (npc := 15) (v := 8) (by decide) dX8_has_13 rfl ?_
  refine aw_iload_n (npc := 16) rfl dX8_has_15 rfl ?_
  refine aw_iaddV (npc := 17) (v := 8) dX8_has_16 rfl (by decide) ?_
  refine aw_iald (npc := 18) (x := N 8) (j := 8) dX8_has_17 rfl F.2.1 ⟨by decide, by decide⟩ (tl_at (by omega)) ?_
  refine aw_istore (npc := 20) (L' := [some (.ref 69), some (.int 0), some (.int 0), some (.int 0), some (.int (N 8))]) dX8_has_18 rfl (by decide) rfl rfl ?_
  refine aw_iload_n (npc := 21) rfl dX8_has_20 rfl ?_
  refine aw_aload_n (npc := 22) rfl dX8_has_21 rfl ?_
  refine aw_get (npc := 25) dX8_has_22 rfl kf_X8_9 F.1 rfl ?_
  refine aw_bipush (npc := 27) (v := 12) (by decide) dX8_has_25 rfl ?_
  refine aw_iconst (npc := 28) (v := 4) (by decide) dX8_has_27 rfl ?_
  refine aw_iload_n (npc := 29) rfl dX8_has_28 rfl ?_
  refine aw_imulV (npc := 30) (v := 0) dX8_has_29 rfl (by decide) ?_
  refine aw_iaddV (npc := 31) (v := 12) dX8_has_30 rfl (by decide) ?_
  refine aw_iload_n (npc := 32) rfl dX8_has_31 rfl ?_
  refine aw_iaddV (npc := 33) (v := 12) dX8_has_32 rfl (by decide) ?_
  refine aw_iald (npc := 34) (x := N 12) (j := 12) dX8_has_33 rfl F.2.1 ⟨by decide, by decide⟩ (tl_at (by omega)) ?_
  refine aw_iload_n (npc := 35) rfl dX8_has_34 rfl ?_
  refine aw_if_ne (npc := 38) (tgt := 43) dX8_has_35 rfl (by decide) (fun hc => absurd (by decide) hc) (fun _ => ?_)
  refine aw_iload (npc := 40) rfl dX8_has_38 rfl ?_
  refine aw_goto (npc := 48) dX8_has_40 (by decide) ?_
  refine aw_imul (npc := 49) dX8_has_48 rfl ?_
  refine aw_iadd (npc := 50) dX8_has_49 rfl ?_
  refine aw_istore_n (npc := 51) (L' := [some (.ref 69), some (.int 0), some (.int (0 + ((N 12) * (N 8)))), some (.int 0), some (.int (N 8))]) dX8_has_50 rfl (by decide) rfl rfl ?_
  refine aw_iinc (npc := 54) (v := 1) (L' := [some (.ref 69), some (.int 0), some (.int (0 + ((N 12) * (N 8)))), some (.int 1), some (.int (N 8))]) dX8_has_51 rfl rfl (by decide) (by decide) rfl rfl ?_
  refine aw_goto (npc := 4) dX8_has_54 (by decide) ?_
  refine aw_iload_n (npc := 5) rfl dX8_has_4 rfl ?_
  refine aw_iconst (npc := 6) (v := 4) (by decide) dX8_has_5 rfl ?_
  refine aw_icmp_ge (npc := 9) (tgt := 57) dX8_has_6 rfl (by decide) (fun hc => absurd hc (by decide)) (fun _ => ?_)
  refine aw_aload_n (npc := 10) rfl dX8_has_9 rfl ?_
  refine aw_get (npc := 13) dX8_has_10 rfl kf_X8_9 F.1 rfl ?_
  refine aw_bipush (npc := 15) (v := 8) (by decide) dX8_has_13 rfl ?_
  refine aw_iload_n (npc := 16) rfl dX8_has_15 rfl ?_
  refine aw_iaddV (npc := 17) (v := 9) dX8_has_16 rfl (by decide) ?_
  refine aw_iald (npc := 18) (x := N 9) (j := 9) dX8_has_17 rfl F.2.1 ⟨by decide, by decide⟩ (tl_at (by omega)) ?_
  refine aw_istore (npc := 20) (L' := [some (.ref 69), some (.int 0), some (.int (0 + ((N 12) * (N 8)))), some (.int 1), some (.int (N 9))]) dX8_has_18 rfl (by decide) rfl rfl ?_
  refine aw_iload_n (npc := 21) rfl dX8_has_20 rfl ?_
  refine aw_aload_n (npc := 22) rfl dX8_has_21 rfl ?_
  refine aw_get (npc := 25) dX8_has_22 rfl kf_X8_9 F.1 rfl ?_
  refine aw_bipush (npc := 27) (v := 12) (by decide) dX8_has_25 rfl ?_
  refine aw_iconst (npc := 28) (v := 4) (by decide) dX8_has_27 rfl ?_
  refine aw_iload_n (npc := 29) rfl dX8_has_28 rfl ?_
  refine aw_imulV (npc := 30) (v := 0) dX8_has_29 rfl (by decide) ?_
  refine aw_iaddV (npc := 31) (v := 12) dX8_has_30 rfl (by decide) ?_
  refine aw_iload_n (npc := 32) rfl dX8_has_31 rfl ?_
  refine aw_iaddV (npc := 33) (v := 13) dX8_has_32 rfl (by decide) ?_
  refine aw_iald (npc := 34) (x := N 13) (j := 13) dX8_has_33 rfl F.2.1 ⟨by decide, by decide⟩ (tl_at (by omega)) ?_
  refine aw_iload_n (npc := 35) rfl dX8_has_34 rfl ?_
  refine aw_if_ne (npc := 38) (tgt := 43) dX8_has_35 rfl (by decide) (fun hc => absurd (by decide) hc) (fun _ => ?_)
  refine aw_iload (npc := 40) rfl dX8_has_38 rfl ?_
  refine aw_goto (npc := 48) dX8_has_40 (by decide) ?_
  refine aw_imul (npc := 49) dX8_has_48 rfl ?_
  refine aw_iadd (npc := 50) dX8_has_49 rfl ?_
  refine aw_istore_n (npc := 51) (L' := [some (.ref 69), some (.int 0), some (.int ((0 + ((N 12) * (N 8))) + ((N 13) * (N 9)))), some (.int 1), some (.int (N 9))]) dX8_has_50 rfl (by decide) rfl rfl ?_
  refine aw_iinc (npc := 54) (v := 2) (L' := [some (.ref 69), some (.int 0), some (.int ((0 + ((N 12) * (N 8))) + ((N 13) * (N 9)))), some (.int 2), some (.int (N 9))]) dX8_has_51 rfl rfl (by decide) (by decide) rfl rfl ?_
  refine aw_goto (npc := 4) dX8_has_54 (by decide) ?_
  refine aw_iload_n (npc := 5) rfl dX8_has_4 rfl ?_
  refine aw_iconst (npc := 6) (v := 4) (by decide) dX8_has_5 rfl ?_
  refine aw_icmp_ge (npc := 9) (tgt := 57) dX8_has_6 rfl (by decide) (fun hc => absurd hc (by decide)) (fun _ => ?_)
  refine aw_aload_n (npc := 10) rfl dX8_has_9 rfl ?_
  refine aw_get (npc := 13) dX8_has_10 rfl kf_X8_9 F.1 rfl ?_
  refine aw_bipush (npc := 15) (v := 8) (by decide) dX8_has_13 rfl ?_
  refine aw_iload_n (npc := 16) rfl dX8_has_15 rfl ?_
  refine aw_iaddV (npc := 17) (v := 10) dX8_has_16 rfl (by decide) ?_
  refine aw_iald (npc := 18) (x := N 10) (j := 10) dX8_has_17 rfl F.2.1 ⟨by decide, by decide⟩ (tl_at (by omega)) ?_
  refine aw_istore (npc := 20) (L' := [some (.ref 69), some (.int 0), some (.int ((0 + ((N 12) * (N 8))) + ((N 13) * (N 9)))), some (.int 2), some (.int (N 10))]) dX8_has_18 rfl (by decide) rfl rfl ?_
  refine aw_iload_n (npc := 21) rfl dX8_has_20 rfl ?_
  refine aw_aload_n (npc := 22) rfl dX8_has_21 rfl ?_
  refine aw_get (npc := 25) dX8_has_22 rfl kf_X8_9 F.1 rfl ?_
  refine aw_bipush (npc := 27) (v := 12) (by decide) dX8_has_25 rfl ?_
  refine aw_iconst (npc := 28) (v := 4) (by decide) dX8_has_27 rfl ?_
  refine aw_iload_n (npc := 29) rfl dX8_has_28 rfl ?_
  refine aw_imulV (npc := 30) (v := 0) dX8_has_29 rfl (by decide) ?_
  refine aw_iaddV (npc := 31) (v := 12) dX8_has_30 rfl (by decide) ?_
  refine aw_iload_n (npc := 32) rfl dX8_has_31 rfl ?_
  refine aw_iaddV (npc := 33) (v := 14) dX8_has_32 rfl (by decide) ?_
  refine aw_iald (npc := 34) (x := N 14) (j := 14) dX8_has_33 rfl F.2.1 ⟨by decide, by decide⟩ (tl_at (by omega)) ?_
  refine aw_iload_n (npc := 35) rfl dX8_has_34 rfl ?_
  refine aw_if_ne (npc := 38) (tgt := 43) dX8_has_35 rfl (by decide) (fun hc => absurd (by decide) hc) (fun _ => ?_)
  refine aw_iload (npc := 40) rfl dX8_has_38 rfl ?_
  refine aw_goto (npc := 48) dX8_has_40 (by decide) ?_
  refine aw_imul (npc := 49) dX8_has_48 rfl ?_
  refine aw_iadd (npc := 50) dX8_has_49 rfl ?_
  refine aw_istore_n (npc := 51) (L' := [some (.ref 69), some (.int 0), some (.int (((0 + ((N 12) * (N 8))) + ((N 13) * (N 9))) + ((N 14) * (N 10)))), some (.int 2), some (.int (N 10))]) dX8_has_50 rfl (by decide) rfl rfl ?_
  refine aw_iinc (npc := 54) (v := 3) (L' := [some (.ref 69), some (.int 0), some (.int (((0 + ((N 12) * (N 8))) + ((N 13) * (N 9))) + ((N 14) * (N 10)))), some (.int 3), some (.int (N 10))]) dX8_has_51 rfl rfl (by decide) (by decide) rfl rfl ?_
  refine aw_goto (npc := 4) dX8_has_54 (by decide) ?_
  refine aw_iload_n (npc := 5) rfl dX8_has_4 rfl ?_
  refine aw_iconst (npc := 6) (v := 4) (by decide) dX8_has_5 rfl ?_
  refine aw_icmp_ge (npc := 9) (tgt := 57) dX8_has_6 rfl (by decide) (fun hc => absurd hc (by decide)) (fun _ => ?_)
  refine aw_aload_n (npc := 10) rfl dX8_has_9 rfl ?_
  refine aw_get (npc := 13) dX8_has_10 rfl kf_X8_9 F.1 rfl ?_
  refine aw_bipush (npc := 15) (v := 8) (by decide) dX8_has_13 rfl ?_
  refine aw_iload_n (npc := 16) rfl dX8_has_15 rfl ?_
  refine aw_iaddV (npc := 17) (v := 11) dX8_has_16 rfl (by decide) ?_
  refine aw_iald (npc := 18) (x := N 11) (j := 11) dX8_has_17 rfl F.2.1 ⟨by decide, by decide⟩ (tl_at (by omega)) ?_
  refine aw_istore (npc := 20) (L' := [some (.ref 69), some (.int 0), some (.int (((0 + ((N 12) * (N 8))) + ((N 13) * (N 9))) + ((N 14) * (N 10)))), some (.int 3), some (.int (N 11))]) dX8_has_18 rfl (by decide) rfl rfl ?_
  refine aw_iload_n (npc := 21) rfl dX8_has_20 rfl ?_
  refine aw_aload_n (npc := 22) rfl dX8_has_21 rfl ?_
  refine aw_get (npc := 25) dX8_has_22 rfl kf_X8_9 F.1 rfl ?_
  refine aw_bipush (npc := 27) (v := 12) (by decide) dX8_has_25 rfl ?_
  refine aw_iconst (npc := 28) (v := 4) (by decide) dX8_has_27 rfl ?_
  refine aw_iload_n (npc := 29) rfl dX8_has_28 rfl ?_
  refine aw_imulV (npc := 30) (v := 0) dX8_has_29 rfl (by decide) ?_
  refine aw_iaddV (npc := 31) (v := 12) dX8_has_30 rfl (by decide) ?_
  refine aw_iload_n (npc := 32) rfl dX8_has_31 rfl ?_
  refine aw_iaddV (npc := 33) (v := 15) dX8_has_32 rfl (by decide) ?_
  refine aw_iald (npc := 34) (x := N 15) (j := 15) dX8_has_33 rfl F.2.1 ⟨by decide, by decide⟩ (tl_at (by omega)) ?_
  refine aw_iload_n (npc := 35) rfl dX8_has_34 rfl ?_
  refine aw_if_ne (npc := 38) (tgt := 43) dX8_has_35 rfl (by decide) (fun hc => absurd (by decide) hc) (fun _ => ?_)
  refine aw_iload (npc := 40) rfl dX8_has_38 rfl ?_
  refine aw_goto (npc := 48) dX8_has_40 (by decide) ?_
  refine aw_imul (npc := 49) dX8_has_48 rfl ?_
  refine aw_iadd (npc := 50) dX8_has_49 rfl ?_
  refine aw_istore_n (npc := 51) (L' := [some (.ref 69), some (.int 0), some (.int ((((0 + ((N 12) * (N 8))) + ((N 13) * (N 9))) + ((N 14) * (N 10))) + ((N 15) * (N 11)))), some (.int 3), some (.int (N 11))]) dX8_has_50 rfl (by decide) rfl rfl ?_
  refine aw_iinc (npc := 54) (v := 4) (L' := [some (.ref 69), some (.int 0), some (.int ((((0 + ((N 12) * (N 8))) + ((N 13) * (N 9))) + ((N 14) * (N 10))) + ((N 15) * (N 11)))), some (.int 4), some (.int (N 11))]) dX8_has_51 rfl rfl (by decide) (by decide) rfl rfl ?_
  refine aw_goto (npc := 4) dX8_has_54 (by decide) ?_
  refine aw_iload_n (npc := 5) rfl dX8_has_4 rfl ?_
  refine aw_iconst (npc := 6) (v := 4) (by decide) dX8_has_5 rfl ?_
  refine aw_icmp_ge (npc := 9) (tgt := 57) dX8_has_6 rfl (by decide) (fun _ => ?_) (fun hc => absurd (by decide) hc)
  refine aw_iload_n (npc := 58) rfl dX8_has_57 rfl ?_
  refine aw_iret rfl dX8_has_58 ?_
  exact hq
set_option maxHeartbeats 4000000 in
set_option maxRecDepth 100000 in
theorem m_has1 {X : List Int32} {d rc rs n : Nat} {Q : am_Q} {o N : Nat → Int32} {a : Nat → Nat → Int32} {h : am_H} (F : MR o N a h) (hq : Q (some (.int (hs1 N))) n h) : AW X mX8_has (d + 2) rc rs 0 [some (.ref 69), some (.int 1), none, none, none] [] n h Q := by
  refine aw_iconst (npc := 1) (v := 0) (by decide) dX8_has_0 rfl ?_
  refine aw_istore_n (npc := 2) (L' := [some (.ref 69), some (.int 1), some (.int 0), none, none]) dX8_has_1 rfl (by decide) rfl rfl ?_
  refine aw_iconst (npc := 3) (v := 0) (by decide) dX8_has_2 rfl ?_
  refine aw_istore_n (npc := 4) (L' := [some (.ref 69), some (.int 1), some (.int 0), some (.int 0), none]) dX8_has_3 rfl (by decide) rfl rfl ?_
  refine aw_iload_n (npc := 5) rfl dX8_has_4 rfl ?_
  refine aw_iconst (npc := 6) (v := 4) (by decide) dX8_has_5 rfl ?_
  refine aw_icmp_ge (npc := 9) (tgt := 57) dX8_has_6 rfl (by decide) (fun hc => absurd hc (by decide)) (fun _ => ?_)
  refine aw_aload_n (npc := 10) rfl dX8_has_9 rfl ?_
  refine aw_get (npc := 13) dX8_has_10 rfl kf_X8_9 F.1 rfl ?_
  refine aw_bipush (npc := 15) (v := 8) (by decide) dX8_has_13 rfl ?_
  refine aw_iload_n (npc := 16) rfl dX8_has_15 rfl ?_
  refine aw_iaddV (npc := 17) (v := 8) dX8_has_16 rfl (by decide) ?_
  refine aw_iald (npc := 18) (x := N 8) (j := 8) dX8_has_17 rfl F.2.1 ⟨by decide, by decide⟩ (tl_at (by omega)) ?_
  refine aw_istore (npc := 20) (L' := [some (.ref 69), some (.int 1), some (.int 0), some (.int 0), some (.int (N 8))]) dX8_has_18 rfl (by decide) rfl rfl ?_
  refine aw_iload_n (npc := 21) rfl dX8_has_20 rfl ?_
  refine aw_aload_n (npc := 22) rfl dX8_has_21 rfl ?_
  refine aw_get (npc := 25) dX8_has_22 rfl kf_X8_9 F.1 rfl ?_
  refine aw_bipush (npc := 27) (v := 12) (by decide) dX8_has_25 rfl ?_
  refine aw_iconst (npc := 28) (v := 4) (by decide) dX8_has_27 rfl ?_
  refine aw_iload_n (npc := 29) rfl dX8_has_28 rfl ?_
  refine aw_imulV (npc := 30) (v := 4) dX8_has_29 rfl (by decide) ?_
  refine aw_iaddV (npc := 31) (v := 16) dX8_has_30 rfl (by decide) ?_
  refine aw_iload_n (npc := 32) rfl dX8_has_31 rfl ?_
  refine aw_iaddV (npc := 33) (v := 16) dX8_has_32 rfl (by decide) ?_
  refine aw_iald (npc := 34) (x := N 16) (j := 16) dX8_has_33 rfl F.2.1 ⟨by decide, by decide⟩ (tl_at (by omega)) ?_
  refine aw_iload_n (npc := 35) rfl dX8_has_34 rfl ?_
  refine aw_if_ne (npc := 38) (tgt := 43) dX8_has_35 rfl (by decide) (fun _ => ?_) (fun hc => absurd hc (by decide))
  refine aw_bipush (npc := 45) (v := 9) (by decide) dX8_has_43 rfl ?_
  refine aw_iload (npc := 47) rfl dX8_has_45 rfl ?_
  refine aw_isub (npc := 48) dX8_has_47 rfl ?_
  refine aw_imul (npc := 49) dX8_has_48 rfl ?_
  refine aw_iadd (npc := 50) dX8_has_49 rfl ?_
  refine aw_istore_n (npc := 51) (L' := [some (.ref 69), some (.int 1), some (.int (0 + ((N 16) * (9 - (N 8))))), some (.int 0), some (.int (N 8))]) dX8_has_50 rfl (by decide) rfl rfl ?_
  refine aw_iinc (npc := 54) (v := 1) (L' := [some (.ref 69), some (.int 1), some (.int (0 + ((N 16) * (9 - (N 8))))), some (.int 1), some (.int (N 8))]) dX8_has_51 rfl rfl (by decide) (by decide) rfl rfl ?_
  refine aw_goto (npc := 4) dX8_has_54 (by decide) ?_
  refine aw_iload_n (npc := 5) rfl dX8_has_4 rfl ?_
  refine aw_iconst (npc := 6) (v := 4) (by decide) dX8_has_5 rfl ?_
  refine aw_icmp_ge (npc := 9) (tgt := 57) dX8_has_6 rfl (by decide) (fun hc => absurd hc (by decide)) (fun _ => ?_)
  refine aw_aload_n (npc := 10) rfl dX8_has_9 rfl ?_
  refine aw_get (npc := 13) dX8_has_10 rfl kf_X8_9 F.1 rfl ?_
  refine aw_bipush (npc := 15) (v := 8) (by decide) dX8_has_13 rfl ?_
  refine aw_iload_n (npc := 16) rfl dX8_has_15 rfl ?_
  refine aw_iaddV (npc := 17) (v := 9) dX8_has_16 rfl (by decide) ?_
  refine aw_iald (npc := 18) (x := N 9) (j := 9) dX8_has_17 rfl F.2.1 ⟨by decide, by decide⟩ (tl_at (by omega)) ?_
  refine aw_istore (npc := 20) (L' := [some (.ref 69), some (.int 1), some (.int (0 + ((N 16) * (9 - (N 8))))), some (.int 1), some (.int (N 9))]) dX8_has_18 rfl (by decide) rfl rfl ?_
  refine aw_iload_n (npc := 21) rfl dX8_has_20 rfl ?_
  refine aw_aload_n (npc := 22) rfl dX8_has_21 rfl ?_
  refine aw_get (npc := 25) dX8_has_22 rfl kf_X8_9 F.1 rfl ?_
  refine aw_bipush (npc := 27) (v := 12) (by decide) dX8_has_25 rfl ?_
  refine aw_iconst (npc := 28) (v := 4) (by decide) dX8_has_27 rfl ?_
  refine aw_iload_n (npc := 29) rfl dX8_has_28 rfl ?_
  refine aw_imulV (npc := 30) (v := 4) dX8_has_29 rfl (by decide) ?_
  refine aw_iaddV (npc := 31) (v := 16) dX8_has_30 rfl (by decide) ?_
  refine aw_iload_n (npc := 32) rfl dX8_has_31 rfl ?_
  refine aw_iaddV (npc := 33) (v := 17) dX8_has_32 rfl (by decide) ?_
  refine aw_iald (npc := 34) (x := N 17) (j := 17) dX8_has_33 rfl F.2.1 ⟨by decide, by decide⟩ (tl_at (by omega)) ?_
  refine aw_iload_n (npc := 35) rfl dX8_has_34 rfl ?_
  refine aw_if_ne (npc := 38) (tgt := 43) dX8_has_35 rfl (by decide) (fun _ => ?_) (fun hc => absurd hc (by decide))
  refine aw_bipush (npc := 45) (v := 9) (by decide) dX8_has_43 rfl ?_
  refine aw_iload (npc := 47) rfl dX8_has_45 rfl ?_
  refine aw_isub (npc := 48) dX8_has_47 rfl ?_
  refine aw_imul (npc := 49) dX8_has_48 rfl ?_
  refine aw_iadd (npc := 50) dX8_has_49 rfl ?_
  refine aw_istore_n (npc := 51) (L' := [some (.ref 69), some (.int 1), some (.int ((0 + ((N 16) * (9 - (N 8)))) + ((N 17) * (9 - (N 9))))), some (.int 1), some (.int (N 9))]) dX8_has_50 rfl (by decide) rfl rfl ?_
  refine aw_iinc (npc := 54) (v := 2) (L' := [some (.ref 69), some (.int 1), some (.int ((0 + ((N 16) * (9 - (N 8)))) + ((N 17) * (9 - (N 9))))), some (.int 2), some (.int (N 9))]) dX8_has_51 rfl rfl (by decide) (by decide) rfl rfl ?_
  refine aw_goto (npc := 4) dX8_has_54 (by decide) ?_
  refine aw_iload_n (npc := 5) rfl dX8_has_4 rfl ?_
  refine aw_iconst (npc := 6) (v := 4) (by decide) dX8_has_5 rfl ?_
  refine aw_icmp_ge (npc := 9) (tgt := 57) dX8_has_6 rfl (by decide) (fun hc => absurd hc (by decide)) (fun _ => ?_)
  refine aw_aload_n (npc := 10) rfl dX8_has_9 rfl ?_
  refine aw_get (npc := 13) dX8_has_10 rfl kf_X8_9 F.1 rfl ?_
  refine aw_bipush (npc := 15) (v := 8) (by decide) dX8_has_13 rfl ?_
  refine aw_iload_n (npc := 16) rfl dX8_has_15 rfl ?_
  refine aw_iaddV (npc := 17) (v := 10) dX8_has_16 rfl (by decide) ?_
  refine aw_iald (npc := 18) (x := N 10) (j := 10) dX8_has_17 rfl F.2.1 ⟨by decide, by decide⟩ (tl_at (by omega)) ?_
  refine aw_istore (npc := 20) (L' := [some (.ref 69), some (.int 1), some (.int ((0 + ((N 16) * (9 - (N 8)))) + ((N 17) * (9 - (N 9))))), some (.int 2), some (.int (N 10))]) dX8_has_18 rfl (by decide) rfl rfl ?_
  refine aw_iload_n (npc := 21) rfl dX8_has_20 rfl ?_
  refine aw_aload_n (npc := 22) rfl dX8_has_21 rfl ?_
  refine aw_get (npc := 25) dX8_has_22 rfl kf_X8_9 F.1 rfl ?_
  refine aw_bipush (npc := 27) (v := 12) (by decide) dX8_has_25 rfl ?_
  refine aw_iconst (npc := 28) (v := 4) (by decide) dX8_has_27 rfl ?_
  refine aw_iload_n (npc := 29) rfl dX8_has_28 rfl ?_
  refine aw_imulV (npc := 30) (v := 4) dX8_has_29 rfl (by decide) ?_
  refine aw_iaddV (npc := 31) (v := 16) dX8_has_30 rfl (by decide) ?_
  refine aw_iload_n (npc := 32) rfl dX8_has_31 rfl ?_
  refine aw_iaddV (npc := 33) (v := 18) dX8_has_32 rfl (by decide) ?_
  refine aw_iald (npc := 34) (x := N 18) (j := 18) dX8_has_33 rfl F.2.1 ⟨by decide, by decide⟩ (tl_at (by omega)) ?_
  refine aw_iload_n (npc := 35) rfl dX8_has_34 rfl ?_
  refine aw_if_ne (npc := 38) (tgt := 43) dX8_has_35 rfl (by decide) (fun _ => ?_) (fun hc => absurd hc (by decide))
  refine aw_bipush (npc := 45) (v := 9) (by decide) dX8_has_43 rfl ?_
  refine aw_iload (npc := 47) rfl dX8_has_45 rfl ?_
  refine aw_isub (npc := 48) dX8_has_47 rfl ?_
  refine aw_imul (npc := 49) dX8_has_48 rfl ?_
  refine aw_iadd (npc := 50) dX8_has_49 rfl ?_
  refine aw_istore_n (npc := 51) (L' := [some (.ref 69), some (.int 1), some (.int (((0 + ((N 16) * (9 - (N 8)))) + ((N 17) * (9 - (N 9)))) + ((N 18) * (9 - (N 10))))), some (.int 2), some (.int (N 10))]) dX8_has_50 rfl (by decide) rfl rfl ?_
  refine aw_iinc (npc := 54) (v := 3) (L' := [some (.ref 69), some (.int 1), some (.int (((0 + ((N 16) * (9 - (N 8)))) + ((N 17) * (9 - (N 9)))) + ((N 18) * (9 - (N 10))))), some (.int 3), some (.int (N 10))]) dX8_has_51 rfl rfl (by decide) (by decide) rfl rfl ?_
  refine aw_goto (npc := 4) dX8_has_54 (by decide) ?_
  refine aw_iload_n (npc := 5) rfl dX8_has_4 rfl ?_
  refine aw_iconst (npc := 6) (v := 4) (by decide) dX8_has_5 rfl ?_
  refine aw_icmp_ge (npc := 9) (tgt := 57) dX8_has_6 rfl (by decide) (fun hc => absurd hc (by decide)) (fun _ => ?_)
  refine aw_aload_n (npc := 10) rfl dX8_has_9 rfl ?_
  refine aw_get (npc := 13) dX8_has_10 rfl kf_X8_9 F.1 rfl ?_
  refine aw_bipush (npc := 15) (v := 8) (by decide) dX8_has_13 rfl ?_
  refine aw_iload_n (npc := 16) rfl dX8_has_15 rfl ?_
  refine aw_iaddV (npc := 17) (v := 11) dX8_has_16 rfl (by decide) ?_
  refine aw_iald (npc := 18) (x := N 11) (j := 11) dX8_has_17 rfl F.2.1 ⟨by decide, by decide⟩ (tl_at (by omega)) ?_
  refine aw_istore (npc := 20) (L' := [some (.ref 69), some (.int 1), some (.int (((0 + ((N 16) * (9 - (N 8)))) + ((N 17) * (9 - (N 9)))) + ((N 18) * (9 - (N 10))))), some (.int 3), some (.int (N 11))]) dX8_has_18 rfl (by decide) rfl rfl ?_
  refine aw_iload_n (npc := 21) rfl dX8_has_20 rfl ?_
  refine aw_aload_n (npc := 22) rfl dX8_has_21 rfl ?_
  refine aw_get (npc := 25) dX8_has_22 rfl kf_X8_9 F.1 rfl ?_
  refine aw_bipush (npc := 27) (v := 12) (by decide) dX8_has_25 rfl ?_
  refine aw_iconst (npc := 28) (v := 4) (by decide) dX8_has_27 rfl ?_
  refine aw_iload_n (npc := 29) rfl dX8_has_28 rfl ?_
  refine aw_imulV (npc := 30) (v := 4) dX8_has_29 rfl (by decide) ?_
  refine aw_iaddV (npc := 31) (v := 16) dX8_has_30 rfl (by decide) ?_
  refine aw_iload_n (npc := 32) rfl dX8_has_31 rfl ?_
  refine aw_iaddV (npc := 33) (v := 19) dX8_has_32 rfl (by decide) ?_
  refine aw_iald (npc := 34) (x := N 19) (j := 19) dX8_has_33 rfl F.2.1 ⟨by decide, by decide⟩ (tl_at (by omega)) ?_
  refine aw_iload_n (npc := 35) rfl dX8_has_34 rfl ?_
  refine aw_if_ne (npc := 38) (tgt := 43) dX8_has_35 rfl (by decide) (fun _ => ?_) (fun hc => absurd hc (by decide))
  refine aw_bipush (npc := 45) (v := 9) (by decide) dX8_has_43 rfl ?_
  refine aw_iload (npc := 47) rfl dX8_has_45 rfl ?_
  refine aw_isub (npc := 48) dX8_has_47 rfl ?_
  refine aw_imul (npc := 49) dX8_has_48 rfl ?_
  refine aw_iadd (npc := 50) dX8_has_49 rfl ?_
  refine aw_istore_n (npc := 51) (L' := [some (.ref 69), some (.int 1), some (.int ((((0 + ((N 16) * (9 - (N 8)))) + ((N 17) * (9 - (N 9)))) + ((N 18) * (9 - (N 10)))) + ((N 19) * (9 - (N 11))))), some (.int 3), some (.int (N 11))]) dX8_has_50 rfl (by decide) rfl rfl ?_
  refine aw_iinc (npc := 54) (v := 4) (L' := [some (.ref 69), some (.int 1), some (.int ((((0 + ((N 16) * (9 - (N 8)))) + ((N 17) * (9 - (N 9)))) + ((N 18) * (9 - (N 10)))) + ((N 19) * (9 - (N 11))))), some (.int 4), some (.int (N 11))]) dX8_has_51 rfl rfl (by decide) (by decide) rfl rfl ?_
  refine aw_goto (npc := 4) dX8_has_54 (by decide) ?_
  refine aw_iload_n (npc := 5) rfl dX8_has_4 rfl ?_
  refine aw_iconst (npc := 6) (v := 4) (by decide) dX8_has_5 rfl ?_
  refine aw_icmp_ge (npc := 9) (tgt := 57) dX8_has_6 rfl (by decide) (fun _ => ?_) (fun hc => absurd (by decide) hc)
  refine aw_iload_n (npc := 58) rfl dX8_has_57 rfl ?_
  refine aw_iret rfl dX8_has_58 ?_
  exact hq
set_option maxHeartbeats 4000000 in
set_option maxRecDepth 100000 in
theorem m_peace {X : List Int32} {d rc rs n : Nat} {Q : am_Q} {o N : Nat → Int32} {a : Nat → Nat → Int32} {h : am_H} (F : MR o N a h) (k1 : peace N → Q (some (.int 1)) n h) (k0 : ¬ peace N → Q (some (.int 0)) n h) : AW X mX8_isPeace (d + 4) rc rs 0 [some (.ref 69)] [] n h Q := by
  refine aw_aload_n (npc := 1) rfl dX8_isPeace_0 rfl ?_
  refine aw_iconst (npc := 2) (v := 0) (by decide) dX8_isPeace_1 rfl ?_
  refine aw_callV (npc := 5) (N := mX8_has) (b := 69) (mc := 0) (ms := 0) (A := [.int 0]) (S := []) (L0 := [some (.ref 69), some (.int 0), none, none, none]) dX8_isPeace_2 rfl km_X8_has kk_X8_143 F.1 ⟨by decide, rfl⟩ rfl ⟨rfl, by decide⟩ rfl (Nat.le_of_ble_eq_true rfl) (Nat.zero_add _) (Nat.zero_add _) rfl ?_
  refine m_has0 F ?_
  refine aw_re (S' := [.int (hs0 N)]) rfl ?_
  refine aw_aload_n (npc := 6) rfl dX8_isPeace_5 rfl ?_
  refine aw_get (npc := 9) dX8_isPeace_6 rfl kf_X8_9 F.1 rfl ?_
  refine aw_bipush (npc := 11) (v := 20) (by decide) dX8_isPeace_9 rfl ?_
  refine aw_iald (npc := 12) (x := N 20) (j := 20) dX8_isPeace_11 rfl F.2.1 ⟨by decide, by decide⟩ (tl_at (by omega)) ?_
  refine aw_icmp_lt (npc := 15) (tgt := 34) dX8_isPeace_12 rfl (by decide) (fun hc1 => ?_) (fun hc1 => ?_)
  · refine aw_iconst (npc := 35) (v := 0) (by decide) dX8_isPeace_34 rfl ?_
    refine aw_zret rfl rfl dX8_isPeace_35 ?_
    exact k0 (fun h9 => h9.1 hc1)
  · refine aw_aload_n (npc := 16) rfl dX8_isPeace_15 rfl ?_
    refine aw_iconst (npc := 17) (v := 1) (by decide) dX8_isPeace_16 rfl ?_
    refine aw_callV (npc := 20) (N := mX8_has) (b := 69) (mc := 0) (ms := 0) (A := [.int 1]) (S := []) (L0 := [some (.ref 69), some (.int 1), none, none, none]) dX8_isPeace_17 rfl km_X8_has kk_X8_143 F.1 ⟨by decide, rfl⟩ rfl ⟨rfl, by decide⟩ rfl (Nat.le_of_ble_eq_true rfl) (Nat.zero_add _) (Nat.zero_add _) rfl ?_
    refine m_has1 F ?_
    refine aw_re (S' := [.int (hs1 N)]) rfl ?_
    refine aw_aload_n (npc := 21) rfl dX8_isPeace_20 rfl ?_
    refine aw_get (npc := 24) dX8_isPeace_21 rfl kf_X8_9 F.1 rfl ?_
    refine aw_bipush (npc := 26) (v := 21) (by decide) dX8_isPeace_24 rfl ?_
    refine aw_iald (npc := 27) (x := N 21) (j := 21) dX8_isPeace_26 rfl F.2.1 ⟨by decide, by decide⟩ (tl_at (by omega)) ?_
    refine aw_icmp_lt (npc := 30) (tgt := 34) dX8_isPeace_27 rfl (by decide) (fun hc2 => ?_) (fun hc2 => ?_)
    · refine aw_iconst (npc := 35) (v := 0) (by decide) dX8_isPeace_34 rfl ?_
      refine aw_zret rfl rfl dX8_isPeace_35 ?_
      exact k0 (fun h9 => h9.2 hc2)
    · refine aw_iconst (npc := 31) (v := 1) (by decide) dX8_isPeace_30 rfl ?_
      refine aw_goto (npc := 35) dX8_isPeace_31 (by decide) ?_
      refine aw_zret rfl rfl dX8_isPeace_35 ?_
      exact k1 ⟨hc1, hc2⟩
def msnum (N : Nat → Int32) : Int32 := 10 * (10 * (10 * (0 + N 8) + N 9) + N 10) + N 11
theorem msnum_eq (N : Nat → Int32) : msnum N = snum N := by
  have e : (0 : Int32) * 10 = 0 := by decide
  unfold msnum snum
  rw [e, Int32.mul_comm 10 (0 + N 8), Int32.mul_comm 10 ((0 + N 8) * 10 + N 9), Int32.mul_comm 10 (((0 + N 8) * 10 + N 9) * 10 + N 10)]
set_option maxHeartbeats 4000000 in
set_option maxRecDepth 100000 in
theorem m_stands {X : List Int32} {d rc rs n : Nat} {Q : am_Q} {o N : Nat → Int32} {a : Nat → Nat → Int32} {h : am_H} (F : MR o N a h) (hq : Q (some (.int (snum N))) n h) : AW X mX8_stands (d + 0) rc rs 0 [some (.ref 69), none, none] [] n h Q := by
  refine aw_iconst (npc := 1) (v := 0) (by decide) dX8_stands_0 rfl ?_
  refine aw_istore_n (npc := 2) (L' := [some (.ref 69), some (.int 0), none]) dX8_stands_1 rfl (by decide) rfl rfl ?_
  refine aw_iconst (npc := 3) (v := 0) (by decide) dX8_stands_2 rfl ?_
  refine aw_istore_n (npc := 4) (L' := [some (.ref 69), some (.int 0), some (.int 0)]) dX8_stands_3 rfl (by decide) rfl rfl ?_
  refine aw_iload_n (npc := 5) rfl dX8_stands_4 rfl ?_
  refine aw_iconst (npc := 6) (v := 4) (by decide) dX8_stands_5 rfl ?_
  refine aw_icmp_ge (npc := 9) (tgt := 30) dX8_stands_6 rfl (by decide) (fun hc => absurd hc (by decide)) (fun _ => ?_)
  refine aw_bipush (npc := 11) (v := 10) (by decide) dX8_stands_9 rfl ?_
  refine aw_iload_n (npc := 12) rfl dX8_stands_11 rfl ?_
  refine aw_imulV (npc := 13) (v := 0) dX8_stands_12 rfl (by decide) ?_
  refine aw_aload_n (npc := 14) rfl dX8_stands_13 rfl ?_
  refine aw_get (npc := 17) dX8_stands_14 rfl kf_X8_9 F.1 rfl ?_
  refine aw_bipush (npc := 19) (v := 8) (by decide) dX8_stands_17 rfl ?_
  refine aw_iload_n (npc := 20) rfl dX8_stands_19 rfl ?_
  refine aw_iaddV (npc := 21) (v := 8) dX8_stands_20 rfl (by decide) ?_
  refine aw_iald (npc := 22) (x := N 8) (j := 8) dX8_stands_21 rfl F.2.1 ⟨by decide, by decide⟩ (tl_at (by omega)) ?_
  refine aw_iadd (npc := 23) dX8_stands_22 rfl ?_
  refine aw_istore_n (npc := 24) (L' := [some (.ref 69), some (.int (0 + (N 8))), some (.int 0)]) dX8_stands_23 rfl (by decide) rfl rfl ?_
  refine aw_iinc (npc := 27) (v := 1) (L' := [some (.ref 69), some (.int (0 + (N 8))), some (.int 1)]) dX8_stands_24 rfl rfl (by decide) (by decide) rfl rfl ?_
  refine aw_goto (npc := 4) dX8_stands_27 (by decide) ?_
  refine aw_iload_n (npc := 5) rfl dX8_stands_4 rfl ?_
  refine aw_iconst (npc := 6) (v := 4) (by decide) dX8_stands_5 rfl ?_
  refine aw_icmp_ge (npc := 9) (tgt := 30) dX8_stands_6 rfl (by decide) (fun hc => absurd hc (by decide)) (fun _ => ?_)
  refine aw_bipush (npc := 11) (v := 10) (by decide) dX8_stands_9 rfl ?_
  refine aw_iload_n (npc := 12) rfl dX8_stands_11 rfl ?_
  refine aw_imul (npc := 13) dX8_stands_12 rfl ?_
  refine aw_aload_n (npc := 14) rfl dX8_stands_13 rfl ?_
  refine aw_get (npc := 17) dX8_stands_14 rfl kf_X8_9 F.1 rfl ?_
  refine aw_bipush (npc := 19) (v := 8) (by decide) dX8_stands_17 rfl ?_
  refine aw_iload_n (npc := 20) rfl dX8_stands_19 rfl ?_
  refine aw_iaddV (npc := 21) (v := 9) dX8_stands_20 rfl (by decide) ?_
  refine aw_iald (npc := 22) (x := N 9) (j := 9) dX8_stands_21 rfl F.2.1 ⟨by decide, by decide⟩ (tl_at (by omega)) ?_
  refine aw_iadd (npc := 23) dX8_stands_22 rfl ?_
  refine aw_istore_n (npc := 24) (L' := [some (.ref 69), some (.int ((10 * (0 + (N 8))) + (N 9))), some (.int 1)]) dX8_stands_23 rfl (by decide) rfl rfl ?_
  refine aw_iinc (npc := 27) (v := 2) (L' := [some (.ref 69), some (.int ((10 * (0 + (N 8))) + (N 9))), some (.int 2)]) dX8_stands_24 rfl rfl (by decide) (by decide) rfl rfl ?_
  refine aw_goto (npc := 4) dX8_stands_27 (by decide) ?_
  refine aw_iload_n (npc := 5) rfl dX8_stands_4 rfl ?_
  refine aw_iconst (npc := 6) (v := 4) (by decide) dX8_stands_5 rfl ?_
  refine aw_icmp_ge (npc := 9) (tgt := 30) dX8_stands_6 rfl (by decide) (fun hc => absurd hc (by decide)) (fun _ => ?_)
  refine aw_bipush (npc := 11) (v := 10) (by decide) dX8_stands_9 rfl ?_
  refine aw_iload_n (npc := 12) rfl dX8_stands_11 rfl ?_
  refine aw_imul (npc := 13) dX8_stands_12 rfl ?_
  refine aw_aload_n (npc := 14) rfl dX8_stands_13 rfl ?_
  refine aw_get (npc := 17) dX8_stands_14 rfl kf_X8_9 F.1 rfl ?_
  refine aw_bipush (npc := 19) (v := 8) (by decide) dX8_stands_17 rfl ?_
  refine aw_iload_n (npc := 20) rfl dX8_stands_19 rfl ?_
  refine aw_iaddV (npc := 21) (v := 10) dX8_stands_20 rfl (by decide) ?_
  refine aw_iald (npc := 22) (x := N 10) (j := 10) dX8_stands_21 rfl F.2.1 ⟨by decide, by decide⟩ (tl_at (by omega)) ?_
  refine aw_iadd (npc := 23) dX8_stands_22 rfl ?_
  refine aw_istore_n (npc := 24) (L' := [some (.ref 69), some (.int ((10 * ((10 * (0 + (N 8))) + (N 9))) + (N 10))), some (.int 2)]) dX8_stands_23 rfl (by decide) rfl rfl ?_
  refine aw_iinc (npc := 27) (v := 3) (L' := [some (.ref 69), some (.int ((10 * ((10 * (0 + (N 8))) + (N 9))) + (N 10))), some (.int 3)]) dX8_stands_24 rfl rfl (by decide) (by decide) rfl rfl ?_
  refine aw_goto (npc := 4) dX8_stands_27 (by decide) ?_
  refine aw_iload_n (npc := 5) rfl dX8_stands_4 rfl ?_
  refine aw_iconst (npc := 6) (v := 4) (by decide) dX8_stands_5 rfl ?_
  refine aw_icmp_ge (npc := 9) (tgt := 30) dX8_stands_6 rfl (by decide) (fun hc => absurd hc (by decide)) (fun _ => ?_)
  refine aw_bipush (npc := 11) (v := 10) (by decide) dX8_stands_9 rfl ?_
  refine aw_iload_n (npc := 12) rfl dX8_stands_11 rfl ?_
  refine aw_imul (npc := 13) dX8_stands_12 rfl ?_
  refine aw_aload_n (npc := 14) rfl dX8_stands_13 rfl ?_
  refine aw_get (npc := 17) dX8_stands_14 rfl kf_X8_9 F.1 rfl ?_
  refine aw_bipush (npc := 19) (v := 8) (by decide) dX8_stands_17 rfl ?_
  refine aw_iload_n (npc := 20) rfl dX8_stands_19 rfl ?_
  refine aw_iaddV (npc := 21) (v := 11) dX8_stands_20 rfl (by decide) ?_
  refine aw_iald (npc := 22) (x := N 11) (j := 11) dX8_stands_21 rfl F.2.1 ⟨by decide, by decide⟩ (tl_at (by omega)) ?_
  refine aw_iadd (npc := 23) dX8_stands_22 rfl ?_
  refine aw_istore_n (npc := 24) (L' := [some (.ref 69), some (.int ((10 * ((10 * ((10 * (0 + (N 8))) + (N 9))) + (N 10))) + (N 11))), some (.int 3)]) dX8_stands_23 rfl (by decide) rfl rfl ?_
  refine aw_iinc (npc := 27) (v := 4) (L' := [some (.ref 69), some (.int ((10 * ((10 * ((10 * (0 + (N 8))) + (N 9))) + (N 10))) + (N 11))), some (.int 4)]) dX8_stands_24 rfl rfl (by decide) (by decide) rfl rfl ?_
  refine aw_goto (npc := 4) dX8_stands_27 (by decide) ?_
  refine aw_iload_n (npc := 5) rfl dX8_stands_4 rfl ?_
  refine aw_iconst (npc := 6) (v := 4) (by decide) dX8_stands_5 rfl ?_
  refine aw_icmp_ge (npc := 9) (tgt := 30) dX8_stands_6 rfl (by decide) (fun _ => ?_) (fun hc => absurd (by decide) hc)
  refine aw_iload_n (npc := 31) rfl dX8_stands_30 rfl ?_
  refine aw_iret rfl dX8_stands_31 ?_
  exact (congrArg (fun z9 => Q (some (.int z9)) n h) (msnum_eq N)).mpr hq
set_option maxHeartbeats 4000000 in
set_option maxRecDepth 100000 in
theorem m_of0 {X : List Int32} {d rc rs n : Nat} {Q : am_Q} {o N : Nat → Int32} {a : Nat → Nat → Int32} {h : am_H} {f : Nat} (F : MR o N a h) (hf : f < 8) (hq : Q (some (.int (N (22 + 5 * f)))) n h) : AW X mX8_of (d + 0) rc rs 0 [some (.ref 69), some (.int (nI f)), some (.int 0)] [] n h Q := by
  refine aw_aload_n (npc := 1) rfl dX8_of_0 rfl ?_
  refine aw_get (npc := 4) dX8_of_1 rfl kf_X8_9 F.1 rfl ?_
  refine aw_bipush (npc := 6) (v := 22) (by decide) dX8_of_4 rfl ?_
  refine aw_iconst (npc := 7) (v := 5) (by decide) dX8_of_6 rfl ?_
  refine aw_iload_n (npc := 8) rfl dX8_of_7 rfl ?_
  refine aw_imulV (npc := 9) (v := nI (5 * f)) dX8_of_8 rfl (pk_mul 5 _) ?_
  refine aw_iaddV (npc := 10) (v := nI (22 + (5 * f))) dX8_of_9 rfl (nI_add 22 _) ?_
  refine aw_iload_n (npc := 11) rfl dX8_of_10 rfl ?_
  refine aw_iaddV (npc := 12) (v := nI (22 + (5 * f))) dX8_of_11 rfl ((nI_add _ 0).trans (congrArg nI (by omega))) ?_
  refine aw_iald (npc := 13) (x := N (22 + (5 * f))) (j := (22 + (5 * f))) dX8_of_12 rfl F.2.1 (am_ix_nI (by omega)) (tl_at (by omega)) ?_
  refine aw_iret rfl dX8_of_13 ?_
  exact hq
set_option maxHeartbeats 4000000 in
set_option maxRecDepth 100000 in
theorem m_of1 {X : List Int32} {d rc rs n : Nat} {Q : am_Q} {o N : Nat → Int32} {a : Nat → Nat → Int32} {h : am_H} {f : Nat} (F : MR o N a h) (hf : f < 8) (hq : Q (some (.int (N (23 + 5 * f)))) n h) : AW X mX8_of (d + 0) rc rs 0 [some (.ref 69), some (.int (nI f)), some (.int 1)] [] n h Q := by
  refine aw_aload_n (npc := 1) rfl dX8_of_0 rfl ?_
  refine aw_get (npc := 4) dX8_of_1 rfl kf_X8_9 F.1 rfl ?_
  refine aw_bipush (npc := 6) (v := 22) (by decide) dX8_of_4 rfl ?_
  refine aw_iconst (npc := 7) (v := 5) (by decide) dX8_of_6 rfl ?_
  refine aw_iload_n (npc := 8) rfl dX8_of_7 rfl ?_
  refine aw_imulV (npc := 9) (v := nI (5 * f)) dX8_of_8 rfl (pk_mul 5 _) ?_
  refine aw_iaddV (npc := 10) (v := nI (22 + (5 * f))) dX8_of_9 rfl (nI_add 22 _) ?_
  refine aw_iload_n (npc := 11) rfl dX8_of_10 rfl ?_
  refine aw_iaddV (npc := 12) (v := nI (23 + (5 * f))) dX8_of_11 rfl ((nI_add _ 1).trans (congrArg nI (by omega))) ?_
  refine aw_iald (npc := 13) (x := N (23 + (5 * f))) (j := (23 + (5 * f))) dX8_of_12 rfl F.2.1 (am_ix_nI (by omega)) (tl_at (by omega)) ?_
  refine aw_iret rfl dX8_of_13 ?_
  exact hq
set_option maxHeartbeats 4000000 in
set_option maxRecDepth 100000 in
theorem m_of2 {X : List Int32} {d rc rs n : Nat} {Q : am_Q} {o N : Nat → Int32} {a : Nat → Nat → Int32} {h : am_H} {f : Nat} (F : MR o N a h) (hf : f < 8) (hq : Q (some (.int (N (24 + 5 * f)))) n h) : AW X mX8_of (d + 0) rc rs 0 [some (.ref 69), some (.int (nI f)), some (.int 2)] [] n h Q := by
  refine aw_aload_n (npc := 1) rfl dX8_of_0 rfl ?_
  refine aw_get (npc := 4) dX8_of_1 rfl kf_X8_9 F.1 rfl ?_
  refine aw_bipush (npc := 6) (v := 22) (by decide) dX8_of_4 rfl ?_
  refine aw_iconst (npc := 7) (v := 5) (by decide) dX8_of_6 rfl ?_
  refine aw_iload_n (npc := 8) rfl dX8_of_7 rfl ?_
  refine aw_imulV (npc := 9) (v := nI (5 * f)) dX8_of_8 rfl (pk_mul 5 _) ?_
  refine aw_iaddV (npc := 10) (v := nI (22 + (5 * f))) dX8_of_9 rfl (nI_add 22 _) ?_
  refine aw_iload_n (npc := 11) rfl dX8_of_10 rfl ?_
  refine aw_iaddV (npc := 12) (v := nI (24 + (5 * f))) dX8_of_11 rfl ((nI_add _ 2).trans (congrArg nI (by omega))) ?_
  refine aw_iald (npc := 13) (x := N (24 + (5 * f))) (j := (24 + (5 * f))) dX8_of_12 rfl F.2.1 (am_ix_nI (by omega)) (tl_at (by omega)) ?_
  refine aw_iret rfl dX8_of_13 ?_
  exact hq
set_option maxHeartbeats 4000000 in
set_option maxRecDepth 100000 in
theorem m_of3 {X : List Int32} {d rc rs n : Nat} {Q : am_Q} {o N : Nat → Int32} {a : Nat → Nat → Int32} {h : am_H} {f : Nat} (F : MR o N a h) (hf : f < 8) (hq : Q (some (.int (N (25 + 5 * f)))) n h) : AW X mX8_of (d + 0) rc rs 0 [some (.ref 69), some (.int (nI f)), some (.int 3)] [] n h Q := by
  refine aw_aload_n (npc := 1) rfl dX8_of_0 rfl ?_
  refine aw_get (npc := 4) dX8_of_1 rfl kf_X8_9 F.1 rfl ?_
  refine aw_bipush (npc := 6) (v := 22) (by decide) dX8_of_4 rfl ?_
  refine aw_iconst (npc := 7) (v := 5) (by decide) dX8_of_6 rfl ?_
  refine aw_iload_n (npc := 8) rfl dX8_of_7 rfl ?_
  refine aw_imulV (npc := 9) (v := nI (5 * f)) dX8_of_8 rfl (pk_mul 5 _) ?_
  refine aw_iaddV (npc := 10) (v := nI (22 + (5 * f))) dX8_of_9 rfl (nI_add 22 _) ?_
  refine aw_iload_n (npc := 11) rfl dX8_of_10 rfl ?_
  refine aw_iaddV (npc := 12) (v := nI (25 + (5 * f))) dX8_of_11 rfl ((nI_add _ 3).trans (congrArg nI (by omega))) ?_
  refine aw_iald (npc := 13) (x := N (25 + (5 * f))) (j := (25 + (5 * f))) dX8_of_12 rfl F.2.1 (am_ix_nI (by omega)) (tl_at (by omega)) ?_
  refine aw_iret rfl dX8_of_13 ?_
  exact hq
set_option maxHeartbeats 4000000 in
set_option maxRecDepth 100000 in
theorem m_of4 {X : List Int32} {d rc rs n : Nat} {Q : am_Q} {o N : Nat → Int32} {a : Nat → Nat → Int32} {h : am_H} {f : Nat} (F : MR o N a h) (hf : f < 8) (hq : Q (some (.int (N (26 + 5 * f)))) n h) : AW X mX8_of (d + 0) rc rs 0 [some (.ref 69), some (.int (nI f)), some (.int 4)] [] n h Q := by
  refine aw_aload_n (npc := 1) rfl dX8_of_0 rfl ?_
  refine aw_get (npc := 4) dX8_of_1 rfl kf_X8_9 F.1 rfl ?_
  refine aw_bipush (npc := 6) (v := 22) (by decide) dX8_of_4 rfl ?_
  refine aw_iconst (npc := 7) (v := 5) (by decide) dX8_of_6 rfl ?_
  refine aw_iload_n (npc := 8) rfl dX8_of_7 rfl ?_
  refine aw_imulV (npc := 9) (v := nI (5 * f)) dX8_of_8 rfl (pk_mul 5 _) ?_
  refine aw_iaddV (npc := 10) (v := nI (22 + (5 * f))) dX8_of_9 rfl (nI_add 22 _) ?_
  refine aw_iload_n (npc := 11) rfl dX8_of_10 rfl ?_
  refine aw_iaddV (npc := 12) (v := nI (26 + (5 * f))) dX8_of_11 rfl ((nI_add _ 4).trans (congrArg nI (by omega))) ?_
  refine aw_iald (npc := 13) (x := N (26 + (5 * f))) (j := (26 + (5 * f))) dX8_of_12 rfl F.2.1 (am_ix_nI (by omega)) (tl_at (by omega)) ?_
  refine aw_iret rfl dX8_of_13 ?_
  exact hq
set_option maxHeartbeats 4000000 in
set_option maxRecDepth 100000 in
theorem m_put0 {X : List Int32} {d rc rs n : Nat} {Q : am_Q} {o N : Nat → Int32} {a : Nat → Nat → Int32} {h : am_H} {f : Nat} {v : Int32} (F : MR o N a h) (hf : f < 8) (hq : ∀ h9, MR o (upd N (22 + 5 * f) v) a h9 → am_fb 69 92 h9 h → Q none n h9) : AW X mX8_put (d + 0) rc rs 0 [some (.ref 69), some (.int (nI f)), some (.int 0), some (.int v)] [] n h Q := by
  refine aw_aload_n (npc := 1) rfl dX8_put_0 rfl ?_
  refine aw_get (npc := 4) dX8_put_1 rfl kf_X8_9 F.1 rfl ?_
  refine aw_bipush (npc := 6) (v := 22) (by decide) dX8_put_4 rfl ?_
  refine aw_iconst (npc := 7) (v := 5) (by decide) dX8_put_6 rfl ?_
  refine aw_iload_n (npc := 8) rfl dX8_put_7 rfl ?_
  refine aw_imulV (npc := 9) (v := nI (5 * f)) dX8_put_8 rfl (pk_mul 5 _) ?_
  refine aw_iaddV (npc := 10) (v := nI (22 + (5 * f))) dX8_put_9 rfl (nI_add 22 _) ?_
  refine aw_iload_n (npc := 11) rfl dX8_put_10 rfl ?_
  refine aw_iaddV (npc := 12) (v := nI (22 + (5 * f))) dX8_put_11 rfl ((nI_add _ 0).trans (congrArg nI (by omega))) ?_
  refine aw_iload_n (npc := 13) rfl dX8_put_12 rfl ?_
  refine aw_iast (npc := 14) (j := (22 + (5 * f))) dX8_put_13 rfl F.2.1 (am_ix_nI (by omega)) (by rw [tl_len]; omega) rfl ?_
  have F1 := mr_70 (j := (22 + (5 * f))) (v := v) F
  refine aw_vret rfl dX8_put_14 ?_
  exact hq _ F1 (am_fbU (by omega) am_fb0)
set_option maxHeartbeats 4000000 in
set_option maxRecDepth 100000 in
theorem m_put1 {X : List Int32} {d rc rs n : Nat} {Q : am_Q} {o N : Nat → Int32} {a : Nat → Nat → Int32} {h : am_H} {f : Nat} {v : Int32} (F : MR o N a h) (hf : f < 8) (hq : ∀ h9, MR o (upd N (23 + 5 * f) v) a h9 → am_fb 69 92 h9 h → Q none n h9) : AW X mX8_put (d + 0) rc rs 0 [some (.ref 69), some (.int (nI f)), some (.int 1), some (.int v)] [] n h Q := by
  refine aw_aload_n (npc := 1) rfl dX8_put_0 rfl ?_
  refine aw_get (npc := 4) dX8_put_1 rfl kf_X8_9 F.1 rfl ?_
  refine aw_bipush (npc := 6) (v := 22) (by decide) dX8_put_4 rfl ?_
  refine aw_iconst (npc := 7) (v := 5) (by decide) dX8_put_6 rfl ?_
  refine aw_iload_n (npc := 8) rfl dX8_put_7 rfl ?_
  refine aw_imulV (npc := 9) (v := nI (5 * f)) dX8_put_8 rfl (pk_mul 5 _) ?_
  refine aw_iaddV (npc := 10) (v := nI (22 + (5 * f))) dX8_put_9 rfl (nI_add 22 _) ?_
  refine aw_iload_n (npc := 11) rfl dX8_put_10 rfl ?_
  refine aw_iaddV (npc := 12) (v := nI (23 + (5 * f))) dX8_put_11 rfl ((nI_add _ 1).trans (congrArg nI (by omega))) ?_
  refine aw_iload_n (npc := 13) rfl dX8_put_12 rfl ?_
  refine aw_iast (npc := 14) (j := (23 + (5 * f))) dX8_put_13 rfl F.2.1 (am_ix_nI (by omega)) (by rw [tl_len]; omega) rfl ?_
  have F1 := mr_70 (j := (23 + (5 * f))) (v := v) F
  refine aw_vret rfl dX8_put_14 ?_
  exact hq _ F1 (am_fbU (by omega) am_fb0)
set_option maxHeartbeats 4000000 in
set_option maxRecDepth 100000 in
theorem m_put2 {X : List Int32} {d rc rs n : Nat} {Q : am_Q} {o N : Nat → Int32} {a : Nat → Nat → Int32} {h : am_H} {f : Nat} {v : Int32} (F : MR o N a h) (hf : f < 8) (hq : ∀ h9, MR o (upd N (24 + 5 * f) v) a h9 → am_fb 69 92 h9 h → Q none n h9) : AW X mX8_put (d + 0) rc rs 0 [some (.ref 69), some (.int (nI f)), some (.int 2), some (.int v)] [] n h Q := by
  refine aw_aload_n (npc := 1) rfl dX8_put_0 rfl ?_
  refine aw_get (npc := 4) dX8_put_1 rfl kf_X8_9 F.1 rfl ?_
  refine aw_bipush (npc := 6) (v := 22) (by decide) dX8_put_4 rfl ?_
  refine aw_iconst (npc := 7) (v := 5) (by decide) dX8_put_6 rfl ?_
  refine aw_iload_n (npc := 8) rfl dX8_put_7 rfl ?_
  refine aw_imulV (npc := 9) (v := nI (5 * f)) dX8_put_8 rfl (pk_mul 5 _) ?_
  refine aw_iaddV (npc := 10) (v := nI (22 + (5 * f))) dX8_put_9 rfl (nI_add 22 _) ?_
  refine aw_iload_n (npc := 11) rfl dX8_put_10 rfl ?_
  refine aw_iaddV (npc := 12) (v := nI (24 + (5 * f))) dX8_put_11 rfl ((nI_add _ 2).trans (congrArg nI (by omega))) ?_
  refine aw_iload_n (npc := 13) rfl dX8_put_12 rfl ?_
  refine aw_iast (npc := 14) (j := (24 + (5 * f))) dX8_put_13 rfl F.2.1 (am_ix_nI (by omega)) (by rw [tl_len]; omega) rfl ?_
  have F1 := mr_70 (j := (24 + (5 * f))) (v := v) F
  refine aw_vret rfl dX8_put_14 ?_
  exact hq _ F1 (am_fbU (by omega) am_fb0)
set_option maxHeartbeats 4000000 in
set_option maxRecDepth 100000 in
theorem m_put3 {X : List Int32} {d rc rs n : Nat} {Q : am_Q} {o N : Nat → Int32} {a : Nat → Nat → Int32} {h : am_H} {f : Nat} {v : Int32} (F : MR o N a h) (hf : f < 8) (hq : ∀ h9, MR o (upd N (25 + 5 * f) v) a h9 → am_fb 69 92 h9 h → Q none n h9) : AW X mX8_put (d + 0) rc rs 0 [some (.ref 69), some (.int (nI f)), some (.int 3), some (.int v)] [] n h Q := by
  refine aw_aload_n (npc := 1) rfl dX8_put_0 rfl ?_
  refine aw_get (npc := 4) dX8_put_1 rfl kf_X8_9 F.1 rfl ?_
  refine aw_bipush (npc := 6) (v := 22) (by decide) dX8_put_4 rfl ?_
  refine aw_iconst (npc := 7) (v := 5) (by decide) dX8_put_6 rfl ?_
  refine aw_iload_n (npc := 8) rfl dX8_put_7 rfl ?_
  refine aw_imulV (npc := 9) (v := nI (5 * f)) dX8_put_8 rfl (pk_mul 5 _) ?_
  refine aw_iaddV (npc := 10) (v := nI (22 + (5 * f))) dX8_put_9 rfl (nI_add 22 _) ?_
  refine aw_iload_n (npc := 11) rfl dX8_put_10 rfl ?_
  refine aw_iaddV (npc := 12) (v := nI (25 + (5 * f))) dX8_put_11 rfl ((nI_add _ 3).trans (congrArg nI (by omega))) ?_
  refine aw_iload_n (npc := 13) rfl dX8_put_12 rfl ?_
  refine aw_iast (npc := 14) (j := (25 + (5 * f))) dX8_put_13 rfl F.2.1 (am_ix_nI (by omega)) (by rw [tl_len]; omega) rfl ?_
  have F1 := mr_70 (j := (25 + (5 * f))) (v := v) F
  refine aw_vret rfl dX8_put_14 ?_
  exact hq _ F1 (am_fbU (by omega) am_fb0)
set_option maxHeartbeats 4000000 in
set_option maxRecDepth 100000 in
theorem m_put4 {X : List Int32} {d rc rs n : Nat} {Q : am_Q} {o N : Nat → Int32} {a : Nat → Nat → Int32} {h : am_H} {f : Nat} {v : Int32} (F : MR o N a h) (hf : f < 8) (hq : ∀ h9, MR o (upd N (26 + 5 * f) v) a h9 → am_fb 69 92 h9 h → Q none n h9) : AW X mX8_put (d + 0) rc rs 0 [some (.ref 69), some (.int (nI f)), some (.int 4), some (.int v)] [] n h Q := by
  refine aw_aload_n (npc := 1) rfl dX8_put_0 rfl ?_
  refine aw_get (npc := 4) dX8_put_1 rfl kf_X8_9 F.1 rfl ?_
  refine aw_bipush (npc := 6) (v := 22) (by decide) dX8_put_4 rfl ?_
  refine aw_iconst (npc := 7) (v := 5) (by decide) dX8_put_6 rfl ?_
  refine aw_iload_n (npc := 8) rfl dX8_put_7 rfl ?_
  refine aw_imulV (npc := 9) (v := nI (5 * f)) dX8_put_8 rfl (pk_mul 5 _) ?_
  refine aw_iaddV (npc := 10) (v := nI (22 + (5 * f))) dX8_put_9 rfl (nI_add 22 _) ?_
  refine aw_iload_n (npc := 11) rfl dX8_put_10 rfl ?_
  refine aw_iaddV (npc := 12) (v := nI (26 + (5 * f))) dX8_put_11 rfl ((nI_add _ 4).trans (congrArg nI (by omega))) ?_
  refine aw_iload_n (npc := 13) rfl dX8_put_12 rfl ?_
  refine aw_iast (npc := 14) (j := (26 + (5 * f))) dX8_put_13 rfl F.2.1 (am_ix_nI (by omega)) (by rw [tl_len]; omega) rfl ?_
  have F1 := mr_70 (j := (26 + (5 * f))) (v := v) F
  refine aw_vret rfl dX8_put_14 ?_
  exact hq _ F1 (am_fbU (by omega) am_fb0)
set_option maxHeartbeats 4000000 in
set_option maxRecDepth 100000 in
theorem m_becomes {X : List Int32} {d rc rs n : Nat} {Q : am_Q} {o N : Nat → Int32} {a : Nat → Nat → Int32} {h : am_H} {j : Nat} {v : Int32} (F : MR o N a h) (hj : j < 1434) (hq : ∀ h9, MR o (upd N j v) a h9 → am_fb 69 92 h9 h → Q (some (.int (N j))) n h9) : AW X mX8_becomes (d + 0) rc rs 0 [some (.ref 69), some (.int (nI j)), some (.int v), none] [] n h Q := by
  refine aw_aload_n (npc := 1) rfl dX8_becomes_0 rfl ?_
  refine aw_get (npc := 4) dX8_becomes_1 rfl kf_X8_9 F.1 rfl ?_
  refine aw_iload_n (npc := 5) rfl dX8_becomes_4 rfl ?_
  refine aw_iald (npc := 6) (x := N j) (j := j) dX8_becomes_5 rfl F.2.1 (am_ix_nI (by omega)) (tl_at (by omega)) ?_
  refine aw_istore_n (npc := 7) (L' := [some (.ref 69), some (.int (nI j)), some (.int v), some (.int (N j))]) dX8_becomes_6 rfl (by decide) rfl rfl ?_
  refine aw_aload_n (npc := 8) rfl dX8_becomes_7 rfl ?_
  refine aw_get (npc := 11) dX8_becomes_8 rfl kf_X8_9 F.1 rfl ?_
  refine aw_iload_n (npc := 12) rfl dX8_becomes_11 rfl ?_
  refine aw_iload_n (npc := 13) rfl dX8_becomes_12 rfl ?_
  refine aw_iast (npc := 14) (j := j) dX8_becomes_13 rfl F.2.1 (am_ix_nI (by omega)) (by rw [tl_len]; omega) rfl ?_
  have F1 := mr_70 (j := j) (v := v) F
  refine aw_iload_n (npc := 15) rfl dX8_becomes_14 rfl ?_
  refine aw_iret rfl dX8_becomes_15 ?_
  exact hq _ F1 (am_fbU (by omega) am_fb0)
set_option maxHeartbeats 4000000 in
set_option maxRecDepth 100000 in
theorem m_comes {X : List Int32} {d rc rs n : Nat} {Q : am_Q} {o N : Nat → Int32} {a : Nat → Nat → Int32} {h : am_H} {f : Nat} {k s p : Int32} (F : MR o N a h) (hF : N 1 = nI f) (hf : f < 8) (hq : ∀ h9, MR o (addN N f k s p) a h9 → am_fb 69 92 h9 h → Q (some (.int (nI f))) n h9) : AW X mX8_comes (d + 2) rc rs 0 [some (.ref 69), some (.int k), some (.int s), some (.int p), none] [] n h Q := by
  refine aw_aload_n (npc := 1) rfl dX8_comes_0 rfl ?_
  refine aw_get (npc := 4) dX8_comes_1 rfl kf_X8_9 F.1 rfl ?_
  refine aw_iconst (npc := 5) (v := 1) (by decide) dX8_comes_4 rfl ?_
  refine aw_iald (npc := 6) (x := N 1) (j := 1) dX8_comes_5 rfl F.2.1 ⟨by decide, by decide⟩ (tl_at (by omega)) ?_
  refine aw_top (y := nI f) (hF) ?_
  refine aw_istore (npc := 8) (L' := [some (.ref 69), some (.int k), some (.int s), some (.int p), some (.int (nI f))]) dX8_comes_6 rfl (by decide) rfl rfl ?_
  refine aw_aload_n (npc := 9) rfl dX8_comes_8 rfl ?_
  refine aw_iload (npc := 11) rfl dX8_comes_9 rfl ?_
  refine aw_iconst (npc := 12) (v := 0) (by decide) dX8_comes_11 rfl ?_
  refine aw_iload_n (npc := 13) rfl dX8_comes_12 rfl ?_
  refine aw_callV (npc := 16) (N := mX8_put) (b := 69) (mc := 0) (ms := 0) (A := [.int (nI f), .int 0, .int k]) (S := []) (L0 := [some (.ref 69), some (.int (nI f)), some (.int 0), some (.int k)]) dX8_comes_13 rfl km_X8_put kk_X8_87 F.1 ⟨by decide, rfl⟩ rfl ⟨rfl, by decide⟩ rfl (Nat.le_of_ble_eq_true rfl) (Nat.zero_add _) (Nat.zero_add _) rfl ?_
  refine m_put0 (f := f) (v := k) F (by omega) (fun h9 F1 fb2 => ?_)
  refine aw_aload_n (npc := 17) rfl dX8_comes_16 rfl ?_
  refine aw_iload (npc := 19) rfl dX8_comes_17 rfl ?_
  refine aw_iconst (npc := 20) (v := 1) (by decide) dX8_comes_19 rfl ?_
  refine aw_iload_n (npc := 21) rfl dX8_comes_20 rfl ?_
  refine aw_callV (npc := 24) (N := mX8_put) (b := 69) (mc := 0) (ms := 0) (A := [.int (nI f), .int 1, .int s]) (S := []) (L0 := [some (.ref 69), some (.int (nI f)), some (.int 1), some (.int s)]) dX8_comes_21 rfl km_X8_put kk_X8_87 F1.1 ⟨by decide, rfl⟩ rfl ⟨rfl, by decide⟩ rfl (Nat.le_of_ble_eq_true rfl) (Nat.zero_add _) (Nat.zero_add _) rfl ?_
  refine m_put1 (f := f) (v := s) F1 (by omega) (fun h9 F3 fb4 => ?_)
  refine aw_aload_n (npc := 25) rfl dX8_comes_24 rfl ?_
  refine aw_iload (npc := 27) rfl dX8_comes_25 rfl ?_
  refine aw_iconst (npc := 28) (v := 2) (by decide) dX8_comes_27 rfl ?_
  refine aw_iload_n (npc := 29) rfl dX8_comes_28 rfl ?_
  refine aw_callV (npc := 32) (N := mX8_put) (b := 69) (mc := 0) (ms := 0) (A := [.int (nI f), .int 2, .int p]) (S := []) (L0 := [some (.ref 69), some (.int (nI f)), some (.int 2), some (.int p)]) dX8_comes_29 rfl km_X8_put kk_X8_87 F3.1 ⟨by decide, rfl⟩ rfl ⟨rfl, by decide⟩ rfl (Nat.le_of_ble_eq_true rfl) (Nat.zero_add _) (Nat.zero_add _) rfl ?_
  refine m_put2 (f := f) (v := p) F3 (by omega) (fun h9 F5 fb6 => ?_)
  refine aw_aload_n (npc := 33) rfl dX8_comes_32 rfl ?_
  refine aw_iload (npc := 35) rfl dX8_comes_33 rfl ?_
  refine aw_iconst (npc := 36) (v := 3) (by decide) dX8_comes_35 rfl ?_
  refine aw_iconst (npc := 37) (v := 0) (by decide) dX8_comes_36 rfl ?_
  refine aw_callV (npc := 40) (N := mX8_put) (b := 69) (mc := 0) (ms := 0) (A := [.int (nI f), .int 3, .int 0]) (S := []) (L0 := [some (.ref 69), some (.int (nI f)), some (.int 3), some (.int 0)]) dX8_comes_37 rfl km_X8_put kk_X8_87 F5.1 ⟨by decide, rfl⟩ rfl ⟨rfl, by decide⟩ rfl (Nat.le_of_ble_eq_true rfl) (Nat.zero_add _) (Nat.zero_add _) rfl ?_
  refine m_put3 (f := f) (v := 0) F5 (by omega) (fun h9 F7 fb8 => ?_)
  refine aw_aload_n (npc := 41) rfl dX8_comes_40 rfl ?_
  refine aw_iload (npc := 43) rfl dX8_comes_41 rfl ?_
  refine aw_iconst (npc := 44) (v := 4) (by decide) dX8_comes_43 rfl ?_
  refine aw_iconst (npc := 45) (v := 0) (by decide) dX8_comes_44 rfl ?_
  refine aw_callV (npc := 48) (N := mX8_put) (b := 69) (mc := 0) (ms := 0) (A := [.int (nI f), .int 4, .int 0]) (S := []) (L0 := [some (.ref 69), some (.int (nI f)), some (.int 4), some (.int 0)]) dX8_comes_45 rfl km_X8_put kk_X8_87 F7.1 ⟨by decide, rfl⟩ rfl ⟨rfl, by decide⟩ rfl (Nat.le_of_ble_eq_true rfl) (Nat.zero_add _) (Nat.zero_add _) rfl ?_
  refine m_put4 (f := f) (v := 0) F7 (by omega) (fun h9 F9 fb10 => ?_)
  refine aw_aload_n (npc := 49) rfl dX8_comes_48 rfl ?_
  refine aw_get (npc := 52) dX8_comes_49 rfl kf_X8_9 F9.1 rfl ?_
  refine aw_iconst (npc := 53) (v := 1) (by decide) dX8_comes_52 rfl ?_
  refine aw_dup2 (npc := 54) rfl rfl dX8_comes_53 rfl ?_
  refine aw_iald (npc := 55) (x := (upd (upd (upd (upd (upd N (22 + 5 * f) k) (23 + 5 * f) s) (24 + 5 * f) p) (25 + 5 * f) 0) (26 + 5 * f) 0) 1) (j := 1) dX8_comes_54 rfl F9.2.1 ⟨by decide, by decide⟩ (tl_at (by omega)) ?_
  refine aw_top (y := N 1) ((((((pk_un (by omega))).trans (pk_un (by omega))).trans (pk_un (by omega))).trans (pk_un (by omega))).trans (pk_un (by omega))) ?_
  refine aw_top (y := nI f) (hF) ?_
  refine aw_iconst (npc := 56) (v := 1) (by decide) dX8_comes_55 rfl ?_
  refine aw_iaddV (npc := 57) (v := nI (f + 1)) dX8_comes_56 rfl (nI_add _ 1) ?_
  refine aw_iast (npc := 58) (j := 1) dX8_comes_57 rfl F9.2.1 ⟨by decide, by decide⟩ (by rw [tl_len]; omega) rfl ?_
  have F11 := mr_70 (j := 1) (v := nI (f + 1)) F9
  refine aw_iload (npc := 60) rfl dX8_comes_58 rfl ?_
  refine aw_iret rfl dX8_comes_60 ?_
  exact hq _ F11 (am_fbU (by omega) (am_fbT fb10 (am_fbT fb8 (am_fbT fb6 (am_fbT fb4 (am_fbT fb2 am_fb0))))))
