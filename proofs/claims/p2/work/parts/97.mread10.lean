set_option maxHeartbeats 4000000 in
set_option maxRecDepth 100000 in
theorem m_takesE {X : List Int32} {d rc rs n : Nat} {Q : am_Q} {L : Nat} {N : Nat → Int32} {a : Nat → Nat → Int32} {o : Nat → Int32} {h : am_H} (F : MR o N a h) (h9 : o 9 = nI L) (hL : L ≤ 96) {K : Nat × Nat × Nat} {R : RT9} (vk : VK L (a 75) K o) (wk : WFK L (a 75) K) (h3 : 3 ≤ K.2.1) (t : TE L (a 75) (o 15) true 0 (K, [], [], 0, upd (a 80) 0 0) R) (hy : ∀ h9 σ9, EX σ9 L o N a h9 → σ9.1.2.1 = R.2 → R.1 = some (σ9.2.1, σ9.2.2.2.1) → am_fp (fun k => k < 69 ∨ 92 ≤ k) h9 h → Q (some (.int 1)) n h9) (hn : R.1 = none → ∀ h9 σ9, EX σ9 L o N a h9 → σ9.1.2.1 = R.2 → am_fp (fun k => k < 69 ∨ 92 ≤ k) h9 h → Q (some (.int 0)) n h9) : AW X mX8_takesE (d + 4) rc rs 0 [some (.ref 69), none, none, none, none] [] n h Q := by
  refine aw_iconst (npc := 1) (v := 0) (by decide) dX8_takesE_0 rfl ?_
  refine aw_istore_n (npc := 2) (L' := [some (.ref 69), some (.int 0), none, none, none]) dX8_takesE_1 rfl (by decide) rfl rfl ?_
  refine aw_iconst (npc := 3) (v := 0) (by decide) dX8_takesE_2 rfl ?_
  refine aw_istore_n (npc := 4) (L' := [some (.ref 69), some (.int 0), some (.int 0), none, none]) dX8_takesE_3 rfl (by decide) rfl rfl ?_
  refine aw_iconst (npc := 5) (v := 1) (by decide) dX8_takesE_4 rfl ?_
  refine aw_istore_n (npc := 6) (L' := [some (.ref 69), some (.int 0), some (.int 0), some (.int 1), none]) dX8_takesE_5 rfl (by decide) rfl rfl ?_
  refine aw_aload_n (npc := 7) rfl dX8_takesE_6 rfl ?_
  refine aw_iconst (npc := 8) (v := 0) (by decide) dX8_takesE_7 rfl ?_
  refine aw_put (npc := 11) dX8_takesE_8 rfl kf_X8_228 F.1 (Nat.le_of_ble_eq_true rfl) (am_ok_int _) rfl ?_
  have F1 := mr_o19 (v := 0) F
  refine aw_aload_n (npc := 12) rfl dX8_takesE_11 rfl ?_
  refine aw_iconst (npc := 13) (v := 0) (by decide) dX8_takesE_12 rfl ?_
  refine aw_put (npc := 16) dX8_takesE_13 rfl kf_X8_234 F1.1 (Nat.le_of_ble_eq_true rfl) (am_ok_int _) rfl ?_
  have F2 := mr_o20 (v := 0) F1
  refine aw_aload_n (npc := 17) rfl dX8_takesE_16 rfl ?_
  refine aw_iconst (npc := 18) (v := 0) (by decide) dX8_takesE_17 rfl ?_
  refine aw_put (npc := 21) dX8_takesE_18 rfl kf_X8_222 F2.1 (Nat.le_of_ble_eq_true rfl) (am_ok_int _) rfl ?_
  have F3 := mr_o22 (v := 0) F2
  refine aw_aload_n (npc := 22) rfl dX8_takesE_21 rfl ?_
  refine aw_get (npc := 25) dX8_takesE_22 rfl kf_X8_45 F3.1 rfl ?_
  refine aw_iconst (npc := 26) (v := 0) (by decide) dX8_takesE_25 rfl ?_
  refine aw_iconst (npc := 27) (v := 0) (by decide) dX8_takesE_26 rfl ?_
  refine aw_zast (npc := 28) (j := 0) dX8_takesE_27 rfl F3.2.2.2.2.2.2.2.2.2.2.2.1 ⟨by decide, by decide⟩ (by rw [tl_len]; omega) (show vp_nar .boolean 0 = 0 by decide) rfl ?_
  have F4 := mr_80 (j := 0) (v := 0) F3
  refine aw_locs (L' := locE 0 (nO []) true none) rfl ?_
  refine m_loop (o0 := o) (a0 := a) h9 t _ none ⟨_, _, F4, ⟨(vk_u (by decide) (vk_u (by decide) (vk_u (by decide) vk))), ((((pk_un (by omega))).trans (pk_un (by omega))).trans pk_us), (((pk_un (by omega))).trans pk_us), (pk_us), (fun j hj => absurd hj (Nat.not_lt_zero j)), (fun j hj => absurd hj (Nat.not_lt_zero j)), (fun k hk => congrFun aup_eq k)⟩, (fun k k1 k2 k3 k4 => (pk_un k4).trans ((pk_un k3).trans ((pk_un k2).trans (rfl)))), (fun k k1 k2 k3 => aup_n k3)⟩ ⟨wk, hL, h3, h3, Nat.zero_le _, rfl, trivial⟩ (fun h9 σ9 q1 q2 q3 q4 => hy h9 σ9 q1 q2 q3 (am_fpT q4 (am_fpU (show ¬ (80 < 69 ∨ 92 ≤ 80) by omega) (am_fpU (show ¬ (69 < 69 ∨ 92 ≤ 69) by omega) (am_fpU (show ¬ (69 < 69 ∨ 92 ≤ 69) by omega) (am_fpU (show ¬ (69 < 69 ∨ 92 ≤ 69) by omega) am_fp0)))))) (fun z h9 σ9 q1 q2 q4 => hn z h9 σ9 q1 q2 (am_fpT q4 (am_fpU (show ¬ (80 < 69 ∨ 92 ≤ 80) by omega) (am_fpU (show ¬ (69 < 69 ∨ 92 ≤ 69) by omega) (am_fpU (show ¬ (69 < 69 ∨ 92 ≤ 69) by omega) (am_fpU (show ¬ (69 < 69 ∨ 92 ≤ 69) by omega) am_fp0))))))
