noncomputable def sp_ends (w : Int32) : Int32 := wif w 0 1 ((-1000000005)) (-1000000001)
noncomputable def sp_cool (n : Int32) : Int32 := wif n 1 40 ((-1000000005)) (-1000000001)
set_option maxHeartbeats 40000000 in
set_option maxRecDepth 100000 in
theorem p_endsL {X : List Int32} {d rc rs : Nat} {Q : am_Q} {w : Int32} : ∀ (m j : Nat), j + m = 201 → ∀ (pt : Int32) (h : am_H), h 0 = some (.inr (7, [.ref 1, .ref 13, .ref 25, .int 0, .ref 37, .ref 39, .ref 40, .ref 43, .ref 44, .ref 45, .int 0])) → fq13 0 pt h → (∀ h9, am_fb 13 25 h9 h → Q (some (.int (-1000000005))) 92 h9) → AW X mX7_ends (d + 12) rc rs 25 [some (.ref 0), some (.int w), some (.int (nI j))] [] 92 h Q := by
  intro m
  induction m with
  | zero =>
    intro j hj pt h z0 F hq
    obtain rfl : j = 201 := by omega
    refine aw_iload_n (npc := 26) rfl dX7_ends_25 rfl ?_
    refine aw_sipush (npc := 29) (v := 200) (by decide) dX7_ends_26 rfl ?_
    refine aw_icmp_gt (npc := 32) (tgt := 88) dX7_ends_29 rfl (by decide) (fun _ => ?_) (fun hc => absurd (nI_lt (a := 200) (b := 201) (by omega) (by omega)) hc)
    refine aw_ldc (npc := 90) kc_X7_200 dX7_ends_88 rfl ?_
    refine aw_iret rfl dX7_ends_90 ?_
    exact hq _ am_fb0
  | succ m ih =>
    intro j hj pt h z0 F hq
    obtain ⟨f13, f14, f15, f16, f17, f18, f19, f20, f21, f22, f23, f24⟩ := F
    refine aw_iload_n (npc := 26) rfl dX7_ends_25 rfl ?_
    refine aw_sipush (npc := 29) (v := 200) (by decide) dX7_ends_26 rfl ?_
    refine aw_icmp_gt (npc := 32) (tgt := 88) dX7_ends_29 rfl (by decide) (fun hc => absurd hc (nI_nlt (a := 200) (b := j) (by omega) (by omega))) (fun _ => ?_)
    refine aw_aload_n (npc := 33) rfl dX7_ends_32 rfl ?_
    refine aw_get (npc := 36) dX7_ends_33 rfl kf_X7_16 z0 rfl ?_
    refine aw_callV (npc := 39) (N := mX0_isPeace) (b := 13) (mc := 0) (ms := 0) (A := []) (S := []) (L0 := [some (.ref 13)]) dX7_ends_36 rfl km_X0_isPeace kk_X7_169 f13 ⟨by decide, rfl⟩ rfl ⟨rfl, by decide⟩ rfl (Nat.le_of_ble_eq_true rfl) (Nat.zero_add _) (Nat.zero_add _) rfl ?_
    refine p_peace_13 (hv := 0) (pt := pt) ⟨f13, f14, f15, f16, f17, f18, f19, f20, f21, f22, f23, f24⟩ ?_
    refine aw_re (S' := [.int 0]) rfl ?_
    refine aw_if_eq (npc := 42) (tgt := 52) dX7_ends_39 rfl (by decide) (fun _ => ?_) (fun hc => absurd (by decide) hc)
    refine aw_aload_n (npc := 53) rfl dX7_ends_52 rfl ?_
    refine aw_get (npc := 56) dX7_ends_53 rfl kf_X7_16 z0 rfl ?_
    refine aw_callV (npc := 59) (N := mX0_isDuel) (b := 13) (mc := 0) (ms := 0) (A := []) (S := []) (L0 := [some (.ref 13)]) dX7_ends_56 rfl km_X0_isDuel kk_X7_197 f13 ⟨by decide, rfl⟩ rfl ⟨rfl, by decide⟩ rfl (Nat.le_of_ble_eq_true rfl) (Nat.zero_add _) (Nat.zero_add _) rfl ?_
    refine aw_aload_n (npc := 1) rfl dX0_isDuel_0 rfl ?_
    refine aw_get (npc := 4) dX0_isDuel_1 rfl kf_X0_21 f13 rfl ?_
    refine aw_aload_n (npc := 5) rfl dX0_isDuel_4 rfl ?_
    refine aw_get (npc := 8) dX0_isDuel_5 rfl kf_X0_25 f13 rfl ?_
    refine aw_icmp_lt (npc := 11) (tgt := 15) dX0_isDuel_8 rfl (by decide) (fun _ => ?_) (fun hc => absurd (by decide) hc)
    refine aw_iconst (npc := 16) (v := 0) (by decide) dX0_isDuel_15 rfl ?_
    refine aw_zret rfl rfl dX0_isDuel_16 ?_
    refine aw_re (S' := [.int 0]) rfl ?_
    refine aw_if_eq (npc := 62) (tgt := 72) dX7_ends_59 rfl (by decide) (fun _ => ?_) (fun hc => absurd (by decide) hc)
    refine aw_aload_n (npc := 73) rfl dX7_ends_72 rfl ?_
    refine aw_get (npc := 76) dX7_ends_73 rfl kf_X7_16 z0 rfl ?_
    refine aw_iconst (npc := 77) (v := 1) (by decide) dX7_ends_76 rfl ?_
    refine aw_iconst (npc := 78) (v := -1) (by decide) dX7_ends_77 rfl ?_
    refine aw_callV (npc := 81) (N := mX0_runPosts) (b := 13) (mc := 0) (ms := 0) (A := [.int 1, .int (-1)]) (S := []) (L0 := [some (.ref 13), some (.int 1), some (.int (-1)), none, none]) dX7_ends_78 rfl km_X0_runPosts kk_X7_163 f13 ⟨by decide, rfl⟩ rfl ⟨rfl, by decide⟩ rfl (Nat.le_of_ble_eq_true rfl) (Nat.zero_add _) (Nat.zero_add _) rfl ?_
    refine aw_locs (L' := [some (.ref 13), some (.int (nI 1)), some (.int (-1)), none, none]) rfl ?_
    refine p_run_13 (hv := 0) (pt := pt) (N := 1) ⟨by decide, by decide⟩ (by omega) ⟨f13, f14, f15, f16, f17, f18, f19, f20, f21, f22, f23, f24⟩ (fun h9 F3 fz2 => ?_)
    obtain ⟨a4_13, a4_14, a4_15, a4_16, a4_17, a4_18, a4_19, a4_20, a4_21, a4_22, a4_23, a4_24⟩ := F3
    refine aw_re (S' := [.int 0]) rfl ?_
    refine aw_pop (npc := 82) rfl dX7_ends_81 rfl ?_
    refine aw_iinc (npc := 85) (v := nI (j + 1)) (L' := [some (.ref 0), some (.int w), some (.int (nI (j + 1)))]) dX7_ends_82 rfl rfl (nI_1 j) (by decide) rfl rfl ?_
    refine aw_goto (npc := 25) dX7_ends_85 (by decide) ?_
    exact ih (j + 1) (by omega) _ _ ((fz2 0 (by decide)).trans z0) ⟨a4_13, a4_14, a4_15, a4_16, a4_17, a4_18, a4_19, a4_20, a4_21, a4_22, a4_23, a4_24⟩ (fun h9 fy => hq h9 (am_fbT fy fz2))
set_option maxHeartbeats 40000000 in
set_option maxRecDepth 100000 in
theorem p_X7_ends {X : List Int32} {d rc rs : Nat} {h : am_H} {Q : am_Q} {w : Int32} (F : f0_X7 h) (hq : ∀ h9, am_fr 69 h9 h → Q (some (.int (sp_ends w))) 92 h9) : AW X mX7_ends (d + 14) rc rs 0 [some (.ref 0), some (.int w), none] [] 92 h Q := by
  obtain ⟨f0, f1, f2, f3, f4, f5, f6, f7, f8, f9, f10, f11, f12, f13, f14, f15, f16, f17, f18, f19, f20, f21, f22, f23, f24, -, -, -, -, -, -, -, -, -, -, -, -, -, -, -, -, -, -, -, -, -, -, -, -, -, -, -, -, -, -, -, -, -, -, -, -, -, -, -, -, -, -, -, -⟩ := F
  refine aw_iload_n (npc := 1) rfl dX7_ends_0 rfl ?_
  refine aw_iconst (npc := 2) (v := 0) (by decide) dX7_ends_1 rfl ?_
  refine aw_iconst (npc := 3) (v := 1) (by decide) dX7_ends_2 rfl ?_
  refine aw_callS (npc := 6) (N := mX7_within) (mc := 0) (ms := 0) (A := [.int w, .int 0, .int 1]) (S := []) (L0 := [some (.int w), some (.int 0), some (.int 1)]) dX7_ends_3 rfl km_X7_within kk_X7_74 rfl ⟨rfl, by decide⟩ rfl (Nat.le_of_ble_eq_true rfl) (Nat.zero_add _) (Nat.zero_add _) rfl ?_
  refine c_X7_within (fun hw1 => ?_) (fun hw1 => ?_)
  · refine aw_re (S' := [.int 1]) rfl ?_
    refine aw_if_ne (npc := 9) (tgt := 12) dX7_ends_6 rfl (by decide) (fun _ => ?_) (fun hc => absurd hc (by decide))
    refine aw_aload_n (npc := 13) rfl dX7_ends_12 rfl ?_
    refine aw_get (npc := 16) dX7_ends_13 rfl kf_X7_16 f0 rfl ?_
    refine aw_aload_n (npc := 17) rfl dX7_ends_16 rfl ?_
    refine aw_get (npc := 20) dX7_ends_17 rfl kf_X7_10 f0 rfl ?_
    refine aw_callV (npc := 23) (N := mX0_becomes) (b := 13) (mc := 0) (ms := 0) (A := [.ref 1]) (S := []) (L0 := [some (.ref 13), some (.ref 1), none]) dX7_ends_20 rfl km_X0_becomes kk_X7_193 f13 ⟨by decide, rfl⟩ rfl ⟨rfl, by decide⟩ rfl (Nat.le_of_ble_eq_true rfl) (Nat.zero_add _) (Nat.zero_add _) rfl ?_
    refine p_bec_13 (hv := 0) (pt := 0) (hv2 := 0) (pt2 := 0) ⟨f1, f2, f3, f4, f5, f6, f7, f8, f9, f10, f11, f12⟩ ⟨f13, f14, f15, f16, f17, f18, f19, f20, f21, f22, f23, f24⟩ (fun h9 F3 fz2 => ?_)
    obtain ⟨a4_13, a4_14, a4_15, a4_16, a4_17, a4_18, a4_19, a4_20, a4_21, a4_22, a4_23, a4_24⟩ := F3
    refine aw_iconst (npc := 24) (v := 0) (by decide) dX7_ends_23 rfl ?_
    refine aw_istore_n (npc := 25) (L' := [some (.ref 0), some (.int w), some (.int 0)]) dX7_ends_24 rfl (by decide) rfl rfl ?_
    refine aw_locs (L' := [some (.ref 0), some (.int w), some (.int (nI 0))]) rfl ?_
    refine p_endsL 201 0 (by omega) 0 _ ((fz2 0 (by decide)).trans f0) ⟨a4_13, a4_14, a4_15, a4_16, a4_17, a4_18, a4_19, a4_20, a4_21, a4_22, a4_23, a4_24⟩ (fun h9 fz5 => ?_)
    exact fin_c hq (am_frT (am_fb.fr (by decide) fz5) (am_frT (am_fb.fr (by decide) fz2) am_fr0)) (show sp_ends w = (-1000000005) from (by unfold sp_ends; first | rfl | (simp only [wif_t hw1, wif_same, ite_self]; done) | (simp only [wif_t hw1, wif_same, ite_self]; rfl) | (simp [wif_t hw1, wif_same]; done)))
  · refine aw_re (S' := [.int 0]) rfl ?_
    refine aw_if_ne (npc := 9) (tgt := 12) dX7_ends_6 rfl (by decide) (fun hc => absurd (by decide) hc) (fun _ => ?_)
    refine aw_ldc (npc := 11) kc_X7_78 dX7_ends_9 rfl ?_
    refine aw_iret rfl dX7_ends_11 ?_
    exact fin_c hq am_fr0 (show sp_ends w = (-1000000001) from (by unfold sp_ends; first | rfl | (simp only [wif_f hw1, wif_same, ite_self]; done) | (simp only [wif_f hw1, wif_same, ite_self]; rfl) | (simp [wif_f hw1, wif_same]; done)))
set_option maxHeartbeats 40000000 in
set_option maxRecDepth 100000 in
theorem p_coolL {X : List Int32} {d rc rs : Nat} {Q : am_Q} {N : Nat} (hN : N ≤ 40) : ∀ (m : Nat), m ≤ 100 → ∀ (hv pt : Int32) (h : am_H), h 0 = some (.inr (7, [.ref 1, .ref 13, .ref 25, .int 0, .ref 37, .ref 39, .ref 40, .ref 43, .ref 44, .ref 45, .int 0])) → fq1 0 0 h → fq13 hv pt h → (∀ h9, am_fb 13 25 h9 h → Q (some (.int (-1000000005))) 92 h9) → AW X mX7_cool (d + 12) rc rs 16 [some (.ref 0), some (.int (nI N)), some (.int (nI m + (-1)))] [] 92 h Q := by
  intro m
  induction m with
  | zero =>
    intro hm hv pt h z0 E F hq
    refine aw_iload_n (npc := 17) rfl dX7_cool_16 rfl ?_
    refine aw_if_lt (npc := 20) (tgt := 67) dX7_cool_17 rfl (by decide) (fun _ => ?_) (fun hc => absurd (by decide) hc)
    refine aw_ldc (npc := 69) kc_X7_200 dX7_cool_67 rfl ?_
    refine aw_iret rfl dX7_cool_69 ?_
    exact hq _ am_fb0
  | succ m ih =>
    intro hm hv pt h z0 E F hq
    obtain ⟨e1, e2, e3, e4, e5, e6, e7, e8, e9, e10, e11, e12⟩ := E
    obtain ⟨f13, f14, f15, f16, f17, f18, f19, f20, f21, f22, f23, f24⟩ := F
    refine aw_locs (L' := [some (.ref 0), some (.int (nI N)), some (.int (nI m))]) (by rw [pk_m1]) ?_
    refine aw_iload_n (npc := 17) rfl dX7_cool_16 rfl ?_
    refine aw_if_lt (npc := 20) (tgt := 67) dX7_cool_17 rfl (by decide) (fun hc => absurd hc (nI_pos (by omega))) (fun _ => ?_)
    refine aw_aload_n (npc := 21) rfl dX7_cool_20 rfl ?_
    refine aw_get (npc := 24) dX7_cool_21 rfl kf_X7_16 z0 rfl ?_
    refine aw_aload_n (npc := 25) rfl dX7_cool_24 rfl ?_
    refine aw_get (npc := 28) dX7_cool_25 rfl kf_X7_10 z0 rfl ?_
    refine aw_callV (npc := 31) (N := mX0_becomes) (b := 13) (mc := 0) (ms := 0) (A := [.ref 1]) (S := []) (L0 := [some (.ref 13), some (.ref 1), none]) dX7_cool_28 rfl km_X0_becomes kk_X7_193 f13 ⟨by decide, rfl⟩ rfl ⟨rfl, by decide⟩ rfl (Nat.le_of_ble_eq_true rfl) (Nat.zero_add _) (Nat.zero_add _) rfl ?_
    refine p_bec_13 (hv := 0) (pt := 0) (hv2 := hv) (pt2 := pt) ⟨e1, e2, e3, e4, e5, e6, e7, e8, e9, e10, e11, e12⟩ ⟨f13, f14, f15, f16, f17, f18, f19, f20, f21, f22, f23, f24⟩ (fun h9 F3 fz2 => ?_)
    obtain ⟨a4_13, a4_14, a4_15, a4_16, a4_17, a4_18, a4_19, a4_20, a4_21, a4_22, a4_23, a4_24⟩ := F3
    refine aw_aload_n (npc := 32) rfl dX7_cool_31 rfl ?_
    refine aw_get (npc := 35) dX7_cool_32 rfl kf_X7_16 ((fz2 0 (by decide)).trans z0) rfl ?_
    refine aw_iload_n (npc := 36) rfl dX7_cool_35 rfl ?_
    refine aw_put (npc := 39) dX7_cool_36 rfl kf_X7_139 a4_13 (Nat.le_of_ble_eq_true rfl) (am_ok_int _) rfl ?_
    refine aw_aload_n (npc := 40) rfl dX7_cool_39 rfl ?_
    refine aw_get (npc := 43) dX7_cool_40 rfl kf_X7_16 (am_ne (by decide) ((fz2 0 (by decide)).trans z0)) rfl ?_
    refine aw_iload_n (npc := 44) rfl dX7_cool_43 rfl ?_
    refine aw_iconst (npc := 45) (v := -1) (by decide) dX7_cool_44 rfl ?_
    refine aw_callV (npc := 48) (N := mX0_runPosts) (b := 13) (mc := 0) (ms := 0) (A := [.int (nI N), .int (-1)]) (S := []) (L0 := [some (.ref 13), some (.int (nI N)), some (.int (-1)), none, none]) dX7_cool_45 rfl km_X0_runPosts kk_X7_163 am_eq ⟨by decide, rfl⟩ rfl ⟨rfl, by decide⟩ rfl (Nat.le_of_ble_eq_true rfl) (Nat.zero_add _) (Nat.zero_add _) rfl ?_
    refine p_run_13 (hv := nI m) (pt := 0) (N := N) ⟨nI_pos (by omega), nI_nlt (a := 99) (b := m) (by omega) (by omega)⟩ (by omega) ⟨am_eq, (am_ne (by decide) a4_14), (am_ne (by decide) a4_15), (am_ne (by decide) a4_16), (am_ne (by decide) a4_17), (am_ne (by decide) a4_18), (am_ne (by decide) a4_19), (am_ne (by decide) a4_20), (am_ne (by decide) a4_21), (am_ne (by decide) a4_22), (am_ne (by decide) a4_23), (am_ne (by decide) a4_24)⟩ (fun h9 F6 fz5 => ?_)
    obtain ⟨a7_13, a7_14, a7_15, a7_16, a7_17, a7_18, a7_19, a7_20, a7_21, a7_22, a7_23, a7_24⟩ := F6
    refine aw_re (S' := [.int 0]) rfl ?_
    refine aw_pop (npc := 49) rfl dX7_cool_48 rfl ?_
    refine aw_aload_n (npc := 50) rfl dX7_cool_49 rfl ?_
    refine aw_get (npc := 53) dX7_cool_50 rfl kf_X7_16 ((fz5 0 (by decide)).trans (am_ne (by decide) ((fz2 0 (by decide)).trans z0))) rfl ?_
    refine aw_callV (npc := 56) (N := mX0_isPeace) (b := 13) (mc := 0) (ms := 0) (A := []) (S := []) (L0 := [some (.ref 13)]) dX7_cool_53 rfl km_X0_isPeace kk_X7_169 a7_13 ⟨by decide, rfl⟩ rfl ⟨rfl, by decide⟩ rfl (Nat.le_of_ble_eq_true rfl) (Nat.zero_add _) (Nat.zero_add _) rfl ?_
    refine p_peace_13 (hv := nI m) (pt := (0 + nI N)) ⟨a7_13, a7_14, a7_15, a7_16, a7_17, a7_18, a7_19, a7_20, a7_21, a7_22, a7_23, a7_24⟩ ?_
    refine aw_re (S' := [.int 0]) rfl ?_
    refine aw_if_eq (npc := 59) (tgt := 61) dX7_cool_56 rfl (by decide) (fun _ => ?_) (fun hc => absurd (by decide) hc)
    refine aw_iinc (npc := 64) (v := nI m + (-1)) (L' := [some (.ref 0), some (.int (nI N)), some (.int (nI m + (-1)))]) dX7_cool_61 rfl rfl rfl (by decide) rfl rfl ?_
    refine aw_goto (npc := 16) dX7_cool_64 (by decide) ?_
    exact ih (by omega) _ _ _ ((fz5 0 (by decide)).trans (am_ne (by decide) ((fz2 0 (by decide)).trans z0))) ⟨((fz5 1 (by decide)).trans (am_ne (by decide) ((fz2 1 (by decide)).trans e1))), ((fz5 2 (by decide)).trans (am_ne (by decide) ((fz2 2 (by decide)).trans e2))), ((fz5 3 (by decide)).trans (am_ne (by decide) ((fz2 3 (by decide)).trans e3))), ((fz5 4 (by decide)).trans (am_ne (by decide) ((fz2 4 (by decide)).trans e4))), ((fz5 5 (by decide)).trans (am_ne (by decide) ((fz2 5 (by decide)).trans e5))), ((fz5 6 (by decide)).trans (am_ne (by decide) ((fz2 6 (by decide)).trans e6))), ((fz5 7 (by decide)).trans (am_ne (by decide) ((fz2 7 (by decide)).trans e7))), ((fz5 8 (by decide)).trans (am_ne (by decide) ((fz2 8 (by decide)).trans e8))), ((fz5 9 (by decide)).trans (am_ne (by decide) ((fz2 9 (by decide)).trans e9))), ((fz5 10 (by decide)).trans (am_ne (by decide) ((fz2 10 (by decide)).trans e10))), ((fz5 11 (by decide)).trans (am_ne (by decide) ((fz2 11 (by decide)).trans e11))), ((fz5 12 (by decide)).trans (am_ne (by decide) ((fz2 12 (by decide)).trans e12)))⟩ ⟨a7_13, a7_14, a7_15, a7_16, a7_17, a7_18, a7_19, a7_20, a7_21, a7_22, a7_23, a7_24⟩ (fun h9 fy => hq h9 (am_fbT fy (am_fbT fz5 (am_fbU (by decide) fz2))))
set_option maxHeartbeats 40000000 in
set_option maxRecDepth 100000 in
theorem p_X7_cool {X : List Int32} {d rc rs : Nat} {h : am_H} {Q : am_Q} {n : Int32} (F : f0_X7 h) (hq : ∀ h9, am_fr 69 h9 h → Q (some (.int (sp_cool n))) 92 h9) : AW X mX7_cool (d + 14) rc rs 0 [some (.ref 0), some (.int n), none] [] 92 h Q := by
  obtain ⟨f0, f1, f2, f3, f4, f5, f6, f7, f8, f9, f10, f11, f12, f13, f14, f15, f16, f17, f18, f19, f20, f21, f22, f23, f24, -, -, -, -, -, -, -, -, -, -, -, -, -, -, -, -, -, -, -, -, -, -, -, -, -, -, -, -, -, -, -, -, -, -, -, -, -, -, -, -, -, -, -, -⟩ := F
  refine aw_iload_n (npc := 1) rfl dX7_cool_0 rfl ?_
  refine aw_iconst (npc := 2) (v := 1) (by decide) dX7_cool_1 rfl ?_
  refine aw_bipush (npc := 4) (v := 40) (by decide) dX7_cool_2 rfl ?_
  refine aw_callS (npc := 7) (N := mX7_within) (mc := 0) (ms := 0) (A := [.int n, .int 1, .int 40]) (S := []) (L0 := [some (.int n), some (.int 1), some (.int 40)]) dX7_cool_4 rfl km_X7_within kk_X7_74 rfl ⟨rfl, by decide⟩ rfl (Nat.le_of_ble_eq_true rfl) (Nat.zero_add _) (Nat.zero_add _) rfl ?_
  refine c_X7_within (fun hw1 => ?_) (fun hw1 => ?_)
  · refine aw_re (S' := [.int 1]) rfl ?_
    refine aw_if_ne (npc := 10) (tgt := 13) dX7_cool_7 rfl (by decide) (fun _ => ?_) (fun hc => absurd hc (by decide))
    obtain ⟨N, hN, rfl⟩ := wi_nI (H := 40) rfl (by decide) hw1
    refine aw_bipush (npc := 15) (v := 99) (by decide) dX7_cool_13 rfl ?_
    refine aw_istore_n (npc := 16) (L' := [some (.ref 0), some (.int (nI N)), some (.int 99)]) dX7_cool_15 rfl (by decide) rfl rfl ?_
    refine aw_locs (L' := [some (.ref 0), some (.int (nI N)), some (.int (nI 100 + (-1)))]) rfl ?_
    refine p_coolL hN 100 (by omega) 0 0 _ f0 ⟨f1, f2, f3, f4, f5, f6, f7, f8, f9, f10, f11, f12⟩ ⟨f13, f14, f15, f16, f17, f18, f19, f20, f21, f22, f23, f24⟩ (fun h9 fz2 => ?_)
    exact fin_c hq (am_frT (am_fb.fr (by decide) fz2) am_fr0) (show sp_cool (nI N) = (-1000000005) from (by unfold sp_cool; first | rfl | (simp only [wif_t hw1, wif_same, ite_self]; done) | (simp only [wif_t hw1, wif_same, ite_self]; rfl) | (simp [wif_t hw1, wif_same]; done)))
  · refine aw_re (S' := [.int 0]) rfl ?_
    refine aw_if_ne (npc := 10) (tgt := 13) dX7_cool_7 rfl (by decide) (fun hc => absurd (by decide) hc) (fun _ => ?_)
    refine aw_ldc (npc := 12) kc_X7_78 dX7_cool_10 rfl ?_
    refine aw_iret rfl dX7_cool_12 ?_
    exact fin_c hq am_fr0 (show sp_cool n = (-1000000001) from (by unfold sp_cool; first | rfl | (simp only [wif_f hw1, wif_same, ite_self]; done) | (simp only [wif_f hw1, wif_same, ite_self]; rfl) | (simp [wif_f hw1, wif_same]; done)))
