def saN (N : Nat → Int32) (V : Nat) : Nat → Int32 := upd (upd (upd (upd N 11 (nI (V % 10))) 10 (nI (V / 10 % 10))) 9 (nI (V / 10 / 10 % 10))) 8 (nI (V / 10 / 10 / 10 % 10))
set_option maxHeartbeats 4000000 in
set_option maxRecDepth 100000 in
theorem m_standAs {X : List Int32} {d rc rs n : Nat} {Q : am_Q} {o N : Nat → Int32} {a : Nat → Nat → Int32} {h : am_H} {V : Nat} (hV : V < 10000) (F : MR o N a h) (hq : ∀ h9, MR o (saN N V) a h9 → am_fb 69 92 h9 h → Q none n h9) : AW X mX8_standAs (d + 0) rc rs 0 [some (.ref 69), some (.int (nI V)), none, none] [] n h Q := by
  refine aw_iload_n (npc := 1) rfl dX8_standAs_0 rfl ?_
  refine aw_istore_n (npc := 2) (L' := [some (.ref 69), some (.int (nI V)), some (.int (nI V)), none]) dX8_standAs_1 rfl (by decide) rfl rfl ?_
  refine aw_iconst (npc := 3) (v := 3) (by decide) dX8_standAs_2 rfl ?_
  refine aw_istore_n (npc := 4) (L' := [some (.ref 69), some (.int (nI V)), some (.int (nI V)), some (.int 3)]) dX8_standAs_3 rfl (by decide) rfl rfl ?_
  refine aw_iload_n (npc := 5) rfl dX8_standAs_4 rfl ?_
  refine aw_if_lt (npc := 8) (tgt := 32) dX8_standAs_5 rfl (by decide) (fun hc => absurd hc (by decide)) (fun _ => ?_)
  refine aw_aload_n (npc := 9) rfl dX8_standAs_8 rfl ?_
  refine aw_get (npc := 12) dX8_standAs_9 rfl kf_X8_9 F.1 rfl ?_
  refine aw_bipush (npc := 14) (v := 8) (by decide) dX8_standAs_12 rfl ?_
  refine aw_iload_n (npc := 15) rfl dX8_standAs_14 rfl ?_
  refine aw_iaddV (npc := 16) (v := 11) dX8_standAs_15 rfl (by decide) ?_
  refine aw_iload_n (npc := 17) rfl dX8_standAs_16 rfl ?_
  refine aw_bipush (npc := 19) (v := 10) (by decide) dX8_standAs_17 rfl ?_
  refine aw_iremV (npc := 20) (v := nI (V % 10)) (by decide) dX8_standAs_19 rfl (pk_rem (a := V) (d := 10) (by omega) (by omega) (by omega)) ?_
  refine aw_iast (npc := 21) (j := 11) dX8_standAs_20 rfl F.2.1 ⟨by decide, by decide⟩ (by rw [tl_len]; omega) rfl ?_
  have F1 := mr_70 (j := 11) (v := nI (V % 10)) F
  refine aw_iload_n (npc := 22) rfl dX8_standAs_21 rfl ?_
  refine aw_bipush (npc := 24) (v := 10) (by decide) dX8_standAs_22 rfl ?_
  refine aw_idivV (npc := 25) (v := nI (V / 10)) (by decide) dX8_standAs_24 rfl (pk_div (a := V) (d := 10) (by omega) (by omega) (by omega)) ?_
  refine aw_istore_n (npc := 26) (L' := [some (.ref 69), some (.int (nI V)), some (.int (nI (V / 10))), some (.int 3)]) dX8_standAs_25 rfl (by decide) rfl rfl ?_
  refine aw_iinc (npc := 29) (v := 2) (L' := [some (.ref 69), some (.int (nI V)), some (.int (nI (V / 10))), some (.int 2)]) dX8_standAs_26 rfl rfl (by decide) (by decide) rfl rfl ?_
  refine aw_goto (npc := 4) dX8_standAs_29 (by decide) ?_
  refine aw_iload_n (npc := 5) rfl dX8_standAs_4 rfl ?_
  refine aw_if_lt (npc := 8) (tgt := 32) dX8_standAs_5 rfl (by decide) (fun hc => absurd hc (by decide)) (fun _ => ?_)
  refine aw_aload_n (npc := 9) rfl dX8_standAs_8 rfl ?_
  refine aw_get (npc := 12) dX8_standAs_9 rfl kf_X8_9 F1.1 rfl ?_
  refine aw_bipush (npc := 14) (v := 8) (by decide) dX8_standAs_12 rfl ?_
  refine aw_iload_n (npc := 15) rfl dX8_standAs_14 rfl ?_
  refine aw_iaddV (npc := 16) (v := 10) dX8_standAs_15 rfl (by decide) ?_
  refine aw_iload_n (npc := 17) rfl dX8_standAs_16 rfl ?_
  refine aw_bipush (npc := 19) (v := 10) (by decide) dX8_standAs_17 rfl ?_
  refine aw_iremV (npc := 20) (v := nI ((V / 10) % 10)) (by decide) dX8_standAs_19 rfl (pk_rem (a := (V / 10)) (d := 10) (by omega) (by omega) (by omega)) ?_
  refine aw_iast (npc := 21) (j := 10) dX8_standAs_20 rfl F1.2.1 ⟨by decide, by decide⟩ (by rw [tl_len]; omega) rfl ?_
  have F2 := mr_70 (j := 10) (v := nI ((V / 10) % 10)) F1
  refine aw_iload_n (npc := 22) rfl dX8_standAs_21 rfl ?_
  refine aw_bipush (npc := 24) (v := 10) (by decide) dX8_standAs_22 rfl ?_
  refine aw_idivV (npc := 25) (v := nI ((V / 10) / 10)) (by decide) dX8_standAs_24 rfl (pk_div (a := (V / 10)) (d := 10) (by omega) (by omega) (by omega)) ?_
  refine aw_istore_n (npc := 26) (L' := [some (.ref 69), some (.int (nI V)), some (.int (nI ((V / 10) / 10))), some (.int 2)]) dX8_standAs_25 rfl (by decide) rfl rfl ?_
  refine aw_iinc (npc := 29) (v := 1) (L' := [some (.ref 69), some (.int (nI V)), some (.int (nI ((V / 10) / 10))), some (.int 1)]) dX8_standAs_26 rfl rfl (by decide) (by decide) rfl rfl ?_
  refine aw_goto (npc := 4) dX8_standAs_29 (by decide) ?_
  refine aw_iload_n (npc := 5) rfl dX8_standAs_4 rfl ?_
  refine aw_if_lt (npc := 8) (tgt := 32) dX8_standAs_5 rfl (by decide) (fun hc => absurd hc (by decide)) (fun _ => ?_)
  refine aw_aload_n (npc := 9) rfl dX8_standAs_8 rfl ?_
  refine aw_get (npc := 12) dX8_standAs_9 rfl kf_X8_9 F2.1 rfl ?_
  refine aw_bipush (npc := 14) (v := 8) (by decide) dX8_standAs_12 rfl ?_
  refine aw_iload_n (npc := 15) rfl dX8_standAs_14 rfl ?_
  refine aw_iaddV (npc := 16) (v := 9) dX8_standAs_15 rfl (by decide) ?_
  refine aw_iload_n (npc := 17) rfl dX8_standAs_16 rfl ?_
  refine aw_bipush (npc := 19) (v := 10) (by decide) dX8_standAs_17 rfl ?_
  refine aw_iremV (npc := 20) (v := nI (((V / 10) / 10) % 10)) (by decide) dX8_standAs_19 rfl (pk_rem (a := ((V / 10) / 10)) (d := 10) (by omega) (by omega) (by omega)) ?_
  refine aw_iast (npc := 21) (j := 9) dX8_standAs_20 rfl F2.2.1 ⟨by decide, by decide⟩ (by rw [tl_len]; omega) rfl ?_
  have F3 := mr_70 (j := 9) (v := nI (((V / 10) / 10) % 10)) F2
  refine aw_iload_n (npc := 22) rfl dX8_standAs_21 rfl ?_
  refine aw_bipush (npc := 24) (v := 10) (by decide) dX8_standAs_22 rfl ?_
  refine aw_idivV (npc := 25) (v := nI (((V / 10) / 10) / 10)) (by decide) dX8_standAs_24 rfl (pk_div (a := ((V / 10) / 10)) (d := 10) (by omega) (by omega) (by omega)) ?_
  refine aw_istore_n (npc := 26) (L' := [some (.ref 69), some (.int (nI V)), some (.int (nI (((V / 10) / 10) / 10))), some (.int 1)]) dX8_standAs_25 rfl (by decide) rfl rfl ?_
  refine aw_iinc (npc := 29) (v := 0) (L' := [some (.ref 69), some (.int (nI V)), some (.int (nI (((V / 10) / 10) / 10))), some (.int 0)]) dX8_standAs_26 rfl rfl (by decide) (by decide) rfl rfl ?_
  refine aw_goto (npc := 4) dX8_standAs_29 (by decide) ?_
  refine aw_iload_n (npc := 5) rfl dX8_standAs_4 rfl ?_
  refine aw_if_lt (npc := 8) (tgt := 32) dX8_standAs_5 rfl (by decide) (fun hc => absurd hc (by decide)) (fun _ => ?_)
  refine aw_aload_n (npc := 9) rfl dX8_standAs_8 rfl ?_
  refine aw_get (npc := 12) dX8_standAs_9 rfl kf_X8_9 F3.1 rfl ?_
  refine aw_bipush (npc := 14) (v := 8) (by decide) dX8_standAs_12 rfl ?_
  refine aw_iload_n (npc := 15) rfl dX8_standAs_14 rfl ?_
  refine aw_iaddV (npc := 16) (v := 8) dX8_standAs_15 rfl (by decide) ?_
  refine aw_iload_n (npc := 17) rfl dX8_standAs_16 rfl ?_
  refine aw_bipush (npc := 19) (v := 10) (by decide) dX8_standAs_17 rfl ?_
  refine aw_iremV (npc := 20) (v := nI ((((V / 10) / 10) / 10) % 10)) (by decide) dX8_standAs_19 rfl (pk_rem (a := (((V / 10) / 10) / 10)) (d := 10) (by omega) (by omega) (by omega)) ?_
  refine aw_iast (npc := 21) (j := 8) dX8_standAs_20 rfl F3.2.1 ⟨by decide, by decide⟩ (by rw [tl_len]; omega) rfl ?_
  have F4 := mr_70 (j := 8) (v := nI ((((V / 10) / 10) / 10) % 10)) F3
  refine aw_iload_n (npc := 22) rfl dX8_standAs_21 rfl ?_
  refine aw_bipush (npc := 24) (v := 10) (by decide) dX8_standAs_22 rfl ?_
  refine aw_idivV (npc := 25) (v := nI ((((V / 10) / 10) / 10) / 10)) (by decide) dX8_standAs_24 rfl (pk_div (a := (((V / 10) / 10) / 10)) (d := 10) (by omega) (by omega) (by omega)) ?_
  refine aw_istore_n (npc := 26) (L' := [some (.ref 69), some (.int (nI V)), some (.int (nI ((((V / 10) / 10) / 10) / 10))), some (.int 0)]) dX8_standAs_25 rfl (by decide) rfl rfl ?_
  refine aw_iinc (npc := 29) (v := (-1)) (L' := [some (.ref 69), some (.int (nI V)), some (.int (nI ((((V / 10) / 10) / 10) / 10))), some (.int (-1))]) dX8_standAs_26 rfl rfl (by decide) (by decide) rfl rfl ?_
  refine aw_goto (npc := 4) dX8_standAs_29 (by decide) ?_
  refine aw_iload_n (npc := 5) rfl dX8_standAs_4 rfl ?_
  refine aw_if_lt (npc := 8) (tgt := 32) dX8_standAs_5 rfl (by decide) (fun _ => ?_) (fun hc => absurd (by decide) hc)
  refine aw_vret rfl dX8_standAs_32 ?_
  exact hq _ F4 (am_fbU (by omega) (am_fbU (by omega) (am_fbU (by omega) (am_fbU (by omega) am_fb0))))
