set_option maxHeartbeats 4000000 in
set_option maxRecDepth 100000 in
theorem m_thinksL {X : List Int32} {d rc rs n : Nat} {Q : am_Q} {o N : Nat → Int32} : ∀ (m k : Nat), k + m = 62 → ∀ (a : Nat → Nat → Int32) (h : am_H), MR o N a h → (∀ j, j < k → a 74 j = N j) → (∀ a9 h9, MR o N a9 h9 → (∀ j, j < 62 → a9 74 j = N j) → (∀ c, c ≠ 74 → a9 c = a c) → am_fb 69 92 h9 h → Q none n h9) → AW X mX8_thinks d rc rs 2 [some (.ref 69), some (.int (nI k))] [] n h Q := by
  intro m
  induction m with
  | zero =>
    intro k hk a h F hk9 hq
    obtain rfl : k = 62 := by omega
    refine aw_iload_n (npc := 3) rfl dX8_thinks_2 rfl ?_
    refine aw_bipush (npc := 5) (v := 62) (by decide) dX8_thinks_3 rfl ?_
    refine aw_icmp_ge (npc := 8) (tgt := 26) dX8_thinks_5 rfl (by decide) (fun _ => ?_) (fun hc => absurd (nI_le (a := 62) (b := 62) (by omega) (by omega)) hc)
    refine aw_vret rfl dX8_thinks_26 ?_
    exact hq _ _ F hk9 (fun _ _ => rfl) am_fb0
  | succ m ih =>
    intro k hk a h F hk9 hq
    refine aw_iload_n (npc := 3) rfl dX8_thinks_2 rfl ?_
    refine aw_bipush (npc := 5) (v := 62) (by decide) dX8_thinks_3 rfl ?_
    refine aw_icmp_ge (npc := 8) (tgt := 26) dX8_thinks_5 rfl (by decide) (fun hc => absurd hc (nI_ge (a := k) (b := 62) (by omega) (by omega))) (fun _ => ?_)
    refine aw_aload_n (npc := 9) rfl dX8_thinks_8 rfl ?_
    refine aw_get (npc := 12) dX8_thinks_9 rfl kf_X8_26 F.1 rfl ?_
    refine aw_iload_n (npc := 13) rfl dX8_thinks_12 rfl ?_
    refine aw_aload_n (npc := 14) rfl dX8_thinks_13 rfl ?_
    refine aw_get (npc := 17) dX8_thinks_14 rfl kf_X8_9 F.1 rfl ?_
    refine aw_iload_n (npc := 18) rfl dX8_thinks_17 rfl ?_
    refine aw_iald (npc := 19) (x := N k) (j := k) dX8_thinks_18 rfl F.2.1 (am_ix_nI (by omega)) (tl_at (by omega)) ?_
    refine aw_iast (npc := 20) (j := k) dX8_thinks_19 rfl F.2.2.2.2.2.1 (am_ix_nI (by omega)) (by rw [tl_len]; omega) rfl ?_
    have F2 := mr_74 (j := k) (v := N k) F
    refine aw_iinc (npc := 23) (v := nI (k + 1)) (L' := [some (.ref 69), some (.int (nI (k + 1)))]) dX8_thinks_20 rfl rfl (nI_1 _) (by decide) rfl rfl ?_
    refine aw_goto (npc := 2) dX8_thinks_23 (by decide) ?_
    refine ih (k + 1) (by omega) _ _ F2 (fun j hj => ?_) (fun a9 h9 M9 e9 c9 f9 => hq a9 h9 M9 e9 (fun c hc => (c9 c hc).trans (aup_n hc)) (am_fbT f9 (am_fbU (by omega) am_fb0)))
    rw [aup_s]
    by_cases z : j = k
    · subst z; exact pk_us
    · exact (pk_un z).trans (hk9 j (by omega))
set_option maxHeartbeats 4000000 in
set_option maxRecDepth 100000 in
theorem m_thinks {X : List Int32} {d rc rs n : Nat} {Q : am_Q} {o N : Nat → Int32} {a : Nat → Nat → Int32} {h : am_H} (F : MR o N a h) (hq : (∀ a9 h9, MR o N a9 h9 → (∀ j, j < 62 → a9 74 j = N j) → (∀ c, c ≠ 74 → a9 c = a c) → am_fb 69 92 h9 h → Q none n h9)) : AW X mX8_thinks (d + 0) rc rs 0 [some (.ref 69), none] [] n h Q := by
  refine aw_iconst (npc := 1) (v := 0) (by decide) dX8_thinks_0 rfl ?_
  refine aw_istore_n (npc := 2) (L' := [some (.ref 69), some (.int 0)]) dX8_thinks_1 rfl (by decide) rfl rfl ?_
  refine aw_locs (L' := [some (.ref 69), some (.int (nI 0))]) rfl ?_
  exact m_thinksL 62 0 (by omega) _ _ F (fun j hj => by omega) hq
set_option maxHeartbeats 4000000 in
set_option maxRecDepth 100000 in
theorem m_putsL {X : List Int32} {d rc rs n : Nat} {Q : am_Q} {o : Nat → Int32} {a : Nat → Nat → Int32} : ∀ (m k : Nat), k + m = 62 → ∀ (N : Nat → Int32) (h : am_H), MR o N a h → (∀ j, j < k → N j = a 74 j) → (∀ N9 h9, MR (upd o 4 (-1)) N9 a h9 → (∀ j, j < 62 → N9 j = a 74 j) → (∀ j, 62 ≤ j → N9 j = N j) → am_fb 69 92 h9 h → Q none n h9) → AW X mX8_putsBack d rc rs 2 [some (.ref 69), some (.int (nI k))] [] n h Q := by
  intro m
  induction m with
  | zero =>
    intro k hk N h F hk9 hq
    obtain rfl : k = 62 := by omega
    refine aw_iload_n (npc := 3) rfl dX8_putsBack_2 rfl ?_
    refine aw_bipush (npc := 5) (v := 62) (by decide) dX8_putsBack_3 rfl ?_
    refine aw_icmp_ge (npc := 8) (tgt := 26) dX8_putsBack_5 rfl (by decide) (fun _ => ?_) (fun hc => absurd (nI_le (a := 62) (b := 62) (by omega) (by omega)) hc)
    refine aw_aload_n (npc := 27) rfl dX8_putsBack_26 rfl ?_
    refine aw_iconst (npc := 28) (v := -1) (by decide) dX8_putsBack_27 rfl ?_
    refine aw_put (npc := 31) dX8_putsBack_28 rfl kf_X8_19 F.1 (Nat.le_of_ble_eq_true rfl) (am_ok_int _) rfl ?_
    have F2 := mr_o4 (v := (-1)) F
    refine aw_vret rfl dX8_putsBack_31 ?_
    exact hq _ _ F2 hk9 (fun _ _ => rfl) (am_fbU (by omega) am_fb0)
  | succ m ih =>
    intro k hk N h F hk9 hq
    refine aw_iload_n (npc := 3) rfl dX8_putsBack_2 rfl ?_
    refine aw_bipush (npc := 5) (v := 62) (by decide) dX8_putsBack_3 rfl ?_
    refine aw_icmp_ge (npc := 8) (tgt := 26) dX8_putsBack_5 rfl (by decide) (fun hc => absurd hc (nI_ge (a := k) (b := 62) (by omega) (by omega))) (fun _ => ?_)
    refine aw_aload_n (npc := 9) rfl dX8_putsBack_8 rfl ?_
    refine aw_get (npc := 12) dX8_putsBack_9 rfl kf_X8_9 F.1 rfl ?_
    refine aw_iload_n (npc := 13) rfl dX8_putsBack_12 rfl ?_
    refine aw_aload_n (npc := 14) rfl dX8_putsBack_13 rfl ?_
    refine aw_get (npc := 17) dX8_putsBack_14 rfl kf_X8_26 F.1 rfl ?_
    refine aw_iload_n (npc := 18) rfl dX8_putsBack_17 rfl ?_
    refine aw_iald (npc := 19) (x := (a 74) k) (j := k) dX8_putsBack_18 rfl F.2.2.2.2.2.1 (am_ix_nI (by omega)) (tl_at (by omega)) ?_
    refine aw_iast (npc := 20) (j := k) dX8_putsBack_19 rfl F.2.1 (am_ix_nI (by omega)) (by rw [tl_len]; omega) rfl ?_
    have F2 := mr_70 (j := k) (v := (a 74) k) F
    refine aw_iinc (npc := 23) (v := nI (k + 1)) (L' := [some (.ref 69), some (.int (nI (k + 1)))]) dX8_putsBack_20 rfl rfl (nI_1 _) (by decide) rfl rfl ?_
    refine aw_goto (npc := 2) dX8_putsBack_23 (by decide) ?_
    refine ih (k + 1) (by omega) _ _ F2 (fun j hj => ?_) (fun N9 h9 M9 e9 c9 f9 => hq N9 h9 M9 e9 (fun c hc => (c9 c hc).trans (pk_un (by omega))) (am_fbT f9 (am_fbU (by omega) am_fb0)))
    by_cases z : j = k
    · subst z; exact pk_us
    · exact (pk_un z).trans (hk9 j (by omega))
set_option maxHeartbeats 4000000 in
set_option maxRecDepth 100000 in
theorem m_puts {X : List Int32} {d rc rs n : Nat} {Q : am_Q} {o N : Nat → Int32} {a : Nat → Nat → Int32} {h : am_H} (F : MR o N a h) (hq : (∀ N9 h9, MR (upd o 4 (-1)) N9 a h9 → (∀ j, j < 62 → N9 j = a 74 j) → (∀ j, 62 ≤ j → N9 j = N j) → am_fb 69 92 h9 h → Q none n h9)) : AW X mX8_putsBack (d + 0) rc rs 0 [some (.ref 69), none] [] n h Q := by
  refine aw_iconst (npc := 1) (v := 0) (by decide) dX8_putsBack_0 rfl ?_
  refine aw_istore_n (npc := 2) (L' := [some (.ref 69), some (.int 0)]) dX8_putsBack_1 rfl (by decide) rfl rfl ?_
  refine aw_locs (L' := [some (.ref 69), some (.int (nI 0))]) rfl ?_
  exact m_putsL 62 0 (by omega) _ _ F (fun j hj => by omega) hq
