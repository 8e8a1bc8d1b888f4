def sumM (w : Nat) (N : Nat → Int32) : Nat → Nat → Int32 → Int32
  | 0, _, s => s
  | m + 1, f, s => sumM w N m (f + 1) (s + N (w + 5 * f))
set_option maxHeartbeats 4000000 in
set_option maxRecDepth 100000 in
theorem g_sumSL {X : List Int32} {d rc rs n : Nat} {Q : am_Q} {b : Nat} {N : Nat → Int32} {tx : List Value} {lk mv : Nat → Int32} {h : am_H} {c : Nat} (F : QR b N tx lk mv h) (hc : N 1 = nI c) (hc8 : c ≤ 8) : ∀ (m f : Nat), f + m = c → ∀ s : Int32, Q (some (.int (sumM 25 N m f s))) n h → AW X mX0_sumOverFriends (d + 0) rc rs 4 [some (.ref b), some (.ref (b + 7)), some (.int s), some (.int (nI f))] [] n h Q := by
  intro m
  induction m with
  | zero =>
    intro f hf s hq
    obtain rfl : f = c := by omega
    refine aw_iload_n (npc := 5) rfl dX0_sumOverFriends_4 rfl ?_
    refine aw_aload_n (npc := 6) rfl dX0_sumOverFriends_5 rfl ?_
    refine aw_get (npc := 9) dX0_sumOverFriends_6 rfl kf_X0_40 F.1 rfl ?_
    refine aw_top (y := nI f) (hc) ?_
    refine aw_icmp_ge (npc := 12) (tgt := 24) dX0_sumOverFriends_9 rfl (by decide) (fun _ => ?_) (fun hc => absurd (nI_le (a := f) (b := f) (by omega) (by omega)) hc)
    refine aw_iload_n (npc := 25) rfl dX0_sumOverFriends_24 rfl ?_
    refine aw_iret rfl dX0_sumOverFriends_25 ?_
    exact hq
  | succ m ih =>
    intro f hf s hq
    refine aw_iload_n (npc := 5) rfl dX0_sumOverFriends_4 rfl ?_
    refine aw_aload_n (npc := 6) rfl dX0_sumOverFriends_5 rfl ?_
    refine aw_get (npc := 9) dX0_sumOverFriends_6 rfl kf_X0_40 F.1 rfl ?_
    refine aw_top (y := nI c) (hc) ?_
    refine aw_icmp_ge (npc := 12) (tgt := 24) dX0_sumOverFriends_9 rfl (by decide) (fun hc => absurd hc (nI_ge (a := f) (b := c) (by omega) (by omega))) (fun _ => ?_)
    refine aw_iload_n (npc := 13) rfl dX0_sumOverFriends_12 rfl ?_
    refine aw_aload_n (npc := 14) rfl dX0_sumOverFriends_13 rfl ?_
    refine aw_iload_n (npc := 15) rfl dX0_sumOverFriends_14 rfl ?_
    refine aw_iald (npc := 16) (x := N (25 + 5 * f)) (j := f) dX0_sumOverFriends_15 rfl F.2.2.2.2.2.2.2.1 (am_ix_nI (by omega)) (tl_at (by omega)) ?_
    refine aw_iadd (npc := 17) dX0_sumOverFriends_16 rfl ?_
    refine aw_istore_n (npc := 18) (L' := [some (.ref b), some (.ref (b + 7)), some (.int (s + (N (25 + 5 * f)))), some (.int (nI f))]) dX0_sumOverFriends_17 rfl (by decide) rfl rfl ?_
    refine aw_iinc (npc := 21) (v := nI (f + 1)) (L' := [some (.ref b), some (.ref (b + 7)), some (.int (s + (N (25 + 5 * f)))), some (.int (nI (f + 1)))]) dX0_sumOverFriends_18 rfl rfl (nI_1 _) (by decide) rfl rfl ?_
    refine aw_goto (npc := 4) dX0_sumOverFriends_21 (by decide) ?_
    exact ih (f + 1) (by omega) (s + (N (25 + 5 * f))) hq
set_option maxHeartbeats 4000000 in
set_option maxRecDepth 100000 in
theorem g_sumS {X : List Int32} {d rc rs n : Nat} {Q : am_Q} {b : Nat} {N : Nat → Int32} {tx : List Value} {lk mv : Nat → Int32} {h : am_H} {c : Nat} (F : QR b N tx lk mv h) (hc : N 1 = nI c) (hc8 : c ≤ 8) (hq : Q (some (.int (sumM 25 N c 0 0))) n h) : AW X mX0_sumOverFriends (d + 0) rc rs 0 [some (.ref b), some (.ref (b + 7)), none, none] [] n h Q := by
  refine aw_iconst (npc := 1) (v := 0) (by decide) dX0_sumOverFriends_0 rfl ?_
  refine aw_istore_n (npc := 2) (L' := [some (.ref b), some (.ref (b + 7)), some (.int 0), none]) dX0_sumOverFriends_1 rfl (by decide) rfl rfl ?_
  refine aw_iconst (npc := 3) (v := 0) (by decide) dX0_sumOverFriends_2 rfl ?_
  refine aw_istore_n (npc := 4) (L' := [some (.ref b), some (.ref (b + 7)), some (.int 0), some (.int 0)]) dX0_sumOverFriends_3 rfl (by decide) rfl rfl ?_
  refine aw_locs (L' := [some (.ref b), some (.ref (b + 7)), some (.int 0), some (.int (nI 0))]) rfl ?_
  exact g_sumSL F hc hc8 c 0 (by omega) 0 hq
set_option maxHeartbeats 4000000 in
set_option maxRecDepth 100000 in
theorem g_sumYL {X : List Int32} {d rc rs n : Nat} {Q : am_Q} {b : Nat} {N : Nat → Int32} {tx : List Value} {lk mv : Nat → Int32} {h : am_H} {c : Nat} (F : QR b N tx lk mv h) (hc : N 1 = nI c) (hc8 : c ≤ 8) : ∀ (m f : Nat), f + m = c → ∀ s : Int32, Q (some (.int (sumM 26 N m f s))) n h → AW X mX0_sumOverFriends (d + 0) rc rs 4 [some (.ref b), some (.ref (b + 8)), some (.int s), some (.int (nI f))] [] n h Q := by
  intro m
  induction m with
  | zero =>
    intro f hf s hq
    obtain rfl : f = c := by omega
    refine aw_iload_n (npc := 5) rfl dX0_sumOverFriends_4 rfl ?_
    refine aw_aload_n (npc := 6) rfl dX0_sumOverFriends_5 rfl ?_
    refine aw_get (npc := 9) dX0_sumOverFriends_6 rfl kf_X0_40 F.1 rfl ?_
    refine aw_top (y := nI f) (hc) ?_
    refine aw_icmp_ge (npc := 12) (tgt := 24) dX0_sumOverFriends_9 rfl (by decide) (fun _ => ?_) (fun hc => absurd (nI_le (a := f) (b := f) (by omega) (by omega)) hc)
    refine aw_iload_n (npc := 25) rfl dX0_sumOverFriends_24 rfl ?_
    refine aw_iret rfl dX0_sumOverFriends_25 ?_
    exact hq
  | succ m ih =>
    intro f hf s hq
    refine aw_iload_n (npc := 5) rfl dX0_sumOverFriends_4 rfl ?_
    refine aw_aload_n (npc := 6) rfl dX0_sumOverFriends_5 rfl ?_
    refine aw_get (npc := 9) dX0_sumOverFriends_6 rfl kf_X0_40 F.1 rfl ?_
    refine aw_top (y := nI c) (hc) ?_
    refine aw_icmp_ge (npc := 12) (tgt := 24) dX0_sumOverFriends_9 rfl (by decide) (fun hc => absurd hc (nI_ge (a := f) (b := c) (by omega) (by omega))) (fun _ => ?_)
    refine aw_iload_n (npc := 13) rfl dX0_sumOverFriends_12 rfl ?_
    refine aw_aload_n (npc := 14) rfl dX0_sumOverFriends_13 rfl ?_
    refine aw_iload_n (npc := 15) rfl dX0_sumOverFriends_14 rfl ?_
    refine aw_iald (npc := 16) (x := N (26 + 5 * f)) (j := f) dX0_sumOverFriends_15 rfl F.2.2.2.2.2.2.2.2.1 (am_ix_nI (by omega)) (tl_at (by omega)) ?_
    refine aw_iadd (npc := 17) dX0_sumOverFriends_16 rfl ?_
    refine aw_istore_n (npc := 18) (L' := [some (.ref b), some (.ref (b + 8)), some (.int (s + (N (26 + 5 * f)))), some (.int (nI f))]) dX0_sumOverFriends_17 rfl (by decide) rfl rfl ?_
    refine aw_iinc (npc := 21) (v := nI (f + 1)) (L' := [some (.ref b), some (.ref (b + 8)), some (.int (s + (N (26 + 5 * f)))), some (.int (nI (f + 1)))]) dX0_sumOverFriends_18 rfl rfl (nI_1 _) (by decide) rfl rfl ?_
    refine aw_goto (npc := 4) dX0_sumOverFriends_21 (by decide) ?_
    exact ih (f + 1) (by omega) (s + (N (26 + 5 * f))) hq
set_option maxHeartbeats 4000000 in
set_option maxRecDepth 100000 in
theorem g_sumY {X : List Int32} {d rc rs n : Nat} {Q : am_Q} {b : Nat} {N : Nat → Int32} {tx : List Value} {lk mv : Nat → Int32} {h : am_H} {c : Nat} (F : QR b N tx lk mv h) (hc : N 1 = nI c) (hc8 : c ≤ 8) (hq : Q (some (.int (sumM 26 N c 0 0))) n h) : AW X mX0_sumOverFriends (d + 0) rc rs 0 [some (.ref b), some (.ref (b + 8)), none, none] [] n h Q := by
  refine aw_iconst (npc := 1) (v := 0) (by decide) dX0_sumOverFriends_0 rfl ?_
  refine aw_istore_n (npc := 2) (L' := [some (.ref b), some (.ref (b + 8)), some (.int 0), none]) dX0_sumOverFriends_1 rfl (by decide) rfl rfl ?_
  refine aw_iconst (npc := 3) (v := 0) (by decide) dX0_sumOverFriends_2 rfl ?_
  refine aw_istore_n (npc := 4) (L' := [some (.ref b), some (.ref (b + 8)), some (.int 0), some (.int 0)]) dX0_sumOverFriends_3 rfl (by decide) rfl rfl ?_
  refine aw_locs (L' := [some (.ref b), some (.ref (b + 8)), some (.int 0), some (.int (nI 0))]) rfl ?_
  exact g_sumYL F hc hc8 c 0 (by omega) 0 hq
set_option maxHeartbeats 4000000 in
set_option maxRecDepth 100000 in
theorem m_sumSL {X : List Int32} {d rc rs n : Nat} {Q : am_Q} {o N : Nat → Int32} {a : Nat → Nat → Int32} {h : am_H} {c : Nat} (F : MR o N a h) (hc : N 1 = nI c) (hc8 : c ≤ 8) : ∀ (m f : Nat), f + m = c → ∀ s : Int32, Q (some (.int (sumM 25 N m f s))) n h → AW X mX8_sumOf (d + 2) rc rs 4 [some (.ref 69), some (.int 3), some (.int s), some (.int (nI f))] [] n h Q := by
  intro m
  induction m with
  | zero =>
    intro f hf s hq
    obtain rfl : f = c := by omega
    refine aw_iload_n (npc := 5) rfl dX8_sumOf_4 rfl ?_
    refine aw_aload_n (npc := 6) rfl dX8_sumOf_5 rfl ?_
    refine aw_get (npc := 9) dX8_sumOf_6 rfl kf_X8_9 F.1 rfl ?_
    refine aw_iconst (npc := 10) (v := 1) (by decide) dX8_sumOf_9 rfl ?_
    refine aw_iald (npc := 11) (x := N 1) (j := 1) dX8_sumOf_10 rfl F.2.1 ⟨by decide, by decide⟩ (tl_at (by omega)) ?_
    refine aw_top (y := nI f) (hc) ?_
    refine aw_icmp_ge (npc := 14) (tgt := 29) dX8_sumOf_11 rfl (by decide) (fun _ => ?_) (fun hc => absurd (nI_le (a := f) (b := f) (by omega) (by omega)) hc)
    refine aw_iload_n (npc := 30) rfl dX8_sumOf_29 rfl ?_
    refine aw_iret rfl dX8_sumOf_30 ?_
    exact hq
  | succ m ih =>
    intro f hf s hq
    refine aw_iload_n (npc := 5) rfl dX8_sumOf_4 rfl ?_
    refine aw_aload_n (npc := 6) rfl dX8_sumOf_5 rfl ?_
    refine aw_get (npc := 9) dX8_sumOf_6 rfl kf_X8_9 F.1 rfl ?_
    refine aw_iconst (npc := 10) (v := 1) (by decide) dX8_sumOf_9 rfl ?_
    refine aw_iald (npc := 11) (x := N 1) (j := 1) dX8_sumOf_10 rfl F.2.1 ⟨by decide, by decide⟩ (tl_at (by omega)) ?_
    refine aw_top (y := nI c) (hc) ?_
    refine aw_icmp_ge (npc := 14) (tgt := 29) dX8_sumOf_11 rfl (by decide) (fun hc => absurd hc (nI_ge (a := f) (b := c) (by omega) (by omega))) (fun _ => ?_)
    refine aw_iload_n (npc := 15) rfl dX8_sumOf_14 rfl ?_
    refine aw_aload_n (npc := 16) rfl dX8_sumOf_15 rfl ?_
    refine aw_iload_n (npc := 17) rfl dX8_sumOf_16 rfl ?_
    refine aw_iload_n (npc := 18) rfl dX8_sumOf_17 rfl ?_
    refine aw_callV (npc := 21) (N := mX8_of) (b := 69) (mc := 0) (ms := 0) (A := [.int (nI f), .int 3]) (S := [.int s]) (L0 := [some (.ref 69), some (.int (nI f)), some (.int 3)]) dX8_sumOf_18 rfl km_X8_of kk_X8_101 F.1 ⟨by decide, rfl⟩ rfl ⟨rfl, by decide⟩ rfl (Nat.le_of_ble_eq_true rfl) (Nat.zero_add _) (Nat.zero_add _) rfl ?_
    refine m_of3 (f := f) F (by omega) ?_
    refine aw_re (S' := [.int (N (25 + 5 * f)), .int s]) rfl ?_
    refine aw_iadd (npc := 22) dX8_sumOf_21 rfl ?_
    refine aw_istore_n (npc := 23) (L' := [some (.ref 69), some (.int 3), some (.int (s + (N (25 + 5 * f)))), some (.int (nI f))]) dX8_sumOf_22 rfl (by decide) rfl rfl ?_
    refine aw_iinc (npc := 26) (v := nI (f + 1)) (L' := [some (.ref 69), some (.int 3), some (.int (s + (N (25 + 5 * f)))), some (.int (nI (f + 1)))]) dX8_sumOf_23 rfl rfl (nI_1 _) (by decide) rfl rfl ?_
    refine aw_goto (npc := 4) dX8_sumOf_26 (by decide) ?_
    exact ih (f + 1) (by omega) (s + (N (25 + 5 * f))) hq
set_option maxHeartbeats 4000000 in
set_option maxRecDepth 100000 in
theorem m_sumS {X : List Int32} {d rc rs n : Nat} {Q : am_Q} {o N : Nat → Int32} {a : Nat → Nat → Int32} {h : am_H} {c : Nat} (F : MR o N a h) (hc : N 1 = nI c) (hc8 : c ≤ 8) (hq : Q (some (.int (sumM 25 N c 0 0))) n h) : AW X mX8_sumOf (d + 2) rc rs 0 [some (.ref 69), some (.int 3), none, none] [] n h Q := by
  refine aw_iconst (npc := 1) (v := 0) (by decide) dX8_sumOf_0 rfl ?_
  refine aw_istore_n (npc := 2) (L' := [some (.ref 69), some (.int 3), some (.int 0), none]) dX8_sumOf_1 rfl (by decide) rfl rfl ?_
  refine aw_iconst (npc := 3) (v := 0) (by decide) dX8_sumOf_2 rfl ?_
  refine aw_istore_n (npc := 4) (L' := [some (.ref 69), some (.int 3), some (.int 0), some (.int 0)]) dX8_sumOf_3 rfl (by decide) rfl rfl ?_
  refine aw_locs (L' := [some (.ref 69), some (.int 3), some (.int 0), some (.int (nI 0))]) rfl ?_
  exact m_sumSL F hc hc8 c 0 (by omega) 0 hq
set_option maxHeartbeats 4000000 in
set_option maxRecDepth 100000 in
theorem m_sumYL {X : List Int32} {d rc rs n : Nat} {Q : am_Q} {o N : Nat → Int32} {a : Nat → Nat → Int32} {h : am_H} {c : Nat} (F : MR o N a h) (hc : N 1 = nI c) (hc8 : c ≤ 8) : ∀ (m f : Nat), f + m = c → ∀ s : Int32, Q (some (.int (sumM 26 N m f s))) n h → AW X mX8_sumOf (d + 2) rc rs 4 [some (.ref 69), some (.int 4), some (.int s), some (.int (nI f))] [] n h Q := by
  intro m
  induction m with
  | zero =>
    intro f hf s hq
    obtain rfl : f = c := by omega
    refine aw_iload_n (npc := 5) rfl dX8_sumOf_4 rfl ?_
    refine aw_aload_n (npc := 6) rfl dX8_sumOf_5 rfl ?_
    refine aw_get (npc := 9) dX8_sumOf_6 rfl kf_X8_9 F.1 rfl ?_
    refine aw_iconst (npc := 10) (v := 1) (by decide) dX8_sumOf_9 rfl ?_
    refine aw_iald (npc := 11) (x := N 1) (j := 1) dX8_sumOf_10 rfl F.2.1 ⟨by decide, by decide⟩ (tl_at (by omega)) ?_
    refine aw_top (y := nI f) (hc) ?_
    refine aw_icmp_ge (npc := 14) (tgt := 29) dX8_sumOf_11 rfl (by decide) (fun _ => ?_) (fun hc => absurd (nI_le (a := f) (b := f) (by omega) (by omega)) hc)
    refine aw_iload_n (npc := 30) rfl dX8_sumOf_29 rfl ?_
    refine aw_iret rfl dX8_sumOf_30 ?_
    exact hq
  | succ m ih =>
    intro f hf s hq
    refine aw_iload_n (npc := 5) rfl dX8_sumOf_4 rfl ?_
    refine aw_aload_n (npc := 6) rfl dX8_sumOf_5 rfl ?_
    refine aw_get (npc := 9) dX8_sumOf_6 rfl kf_X8_9 F.1 rfl ?_
    refine aw_iconst (npc := 10) (v := 1) (by decide) dX8_sumOf_9 rfl ?_
    refine aw_iald (npc := 11) (x := N 1) (j := 1) dX8_sumOf_10 rfl F.2.1 ⟨by decide, by decide⟩ (tl_at (by omega)) ?_
    refine aw_top (y := nI c) (hc) ?_
    refine aw_icmp_ge (npc := 14) (tgt := 29) dX8_sumOf_11 rfl (by decide) (fun hc => absurd hc (nI_ge (a := f) (b := c) (by omega) (by omega))) (fun _ => ?_)
    refine aw_iload_n (npc := 15) rfl dX8_sumOf_14 rfl ?_
    refine aw_aload_n (npc := 16) rfl dX8_sumOf_15 rfl ?_
    refine aw_iload_n (npc := 17) rfl dX8_sumOf_16 rfl ?_
    refine aw_iload_n (npc := 18) rfl dX8_sumOf_17 rfl ?_
    refine aw_callV (npc := 21) (N := mX8_of) (b := 69) (mc := 0) (ms := 0) (A := [.int (nI f), .int 4]) (S := [.int s]) (L0 := [some (.ref 69), some (.int (nI f)), some (.int 4)]) dX8_sumOf_18 rfl km_X8_of kk_X8_101 F.1 ⟨by decide, rfl⟩ rfl ⟨rfl, by decide⟩ rfl (Nat.le_of_ble_eq_true rfl) (Nat.zero_add _) (Nat.zero_add _) rfl ?_
    refine m_of4 (f := f) F (by omega) ?_
    refine aw_re (S' := [.int (N (26 + 5 * f)), .int s]) rfl ?_
    refine aw_iadd (npc := 22) dX8_sumOf_21 rfl ?_
    refine aw_istore_n (npc := 23) (L' := [some (.ref 69), some (.int 4), some (.int (s + (N (26 + 5 * f)))), some (.int (nI f))]) dX8_sumOf_22 rfl (by decide) rfl rfl ?_
    refine aw_iinc (npc := 26) (v := nI (f + 1)) (L' := [some (.ref 69), some (.int 4), some (.int (s + (N (26 + 5 * f)))), some (.int (nI (f + 1)))]) dX8_sumOf_23 rfl rfl (nI_1 _) (by decide) rfl rfl ?_
    refine aw_goto (npc := 4) dX8_sumOf_26 (by decide) ?_
    exact ih (f + 1) (by omega) (s + (N (26 + 5 * f))) hq
set_option maxHeartbeats 4000000 in
set_option maxRecDepth 100000 in
theorem m_sumY {X : List Int32} {d rc rs n : Nat} {Q : am_Q} {o N : Nat → Int32} {a : Nat → Nat → Int32} {h : am_H} {c : Nat} (F : MR o N a h) (hc : N 1 = nI c) (hc8 : c ≤ 8) (hq : Q (some (.int (sumM 26 N c 0 0))) n h) : AW X mX8_sumOf (d + 2) rc rs 0 [some (.ref 69), some (.int 4), none, none] [] n h Q := by
  refine aw_iconst (npc := 1) (v := 0) (by decide) dX8_sumOf_0 rfl ?_
  refine aw_istore_n (npc := 2) (L' := [some (.ref 69), some (.int 4), some (.int 0), none]) dX8_sumOf_1 rfl (by decide) rfl rfl ?_
  refine aw_iconst (npc := 3) (v := 0) (by decide) dX8_sumOf_2 rfl ?_
  refine aw_istore_n (npc := 4) (L' := [some (.ref 69), some (.int 4), some (.int 0), some (.int 0)]) dX8_sumOf_3 rfl (by decide) rfl rfl ?_
  refine aw_locs (L' := [some (.ref 69), some (.int 4), some (.int 0), some (.int (nI 0))]) rfl ?_
  exact m_sumYL F hc hc8 c 0 (by omega) 0 hq
