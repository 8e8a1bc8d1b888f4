noncomputable def sp_posts (n : Int32) : Int32 := wif n 1 100 (0) (-1000000001)
noncomputable def sp_behind (n : Int32) (w : Int32) : Int32 := wif n 0 100 (wif w 0 3 (if w = 0 then 0 else if w = 1 then 5555 else 0) (-1000000001)) (-1000000001)
noncomputable def sp_held (n : Int32) : Int32 := wif n 1 60 (0) (-1000000001)
noncomputable def sp_keep : Int32 := 0
set_option maxHeartbeats 40000000 in
set_option maxRecDepth 100000 in
theorem p_X7_posts {X : List Int32} {d rc rs : Nat} {h : am_H} {Q : am_Q} {n : Int32} (F : f0_X7 h) (hq : ∀ h9, am_fr 69 h9 h → Q (some (.int (sp_posts n))) 92 h9) : AW X mX7_posts (d + 14) rc rs 0 [some (.ref 0), some (.int n)] [] 92 h Q := by
  obtain ⟨f0, f1, f2, f3, f4, f5, f6, f7, f8, f9, f10, f11, f12, -, -, -, -, -, -, -, -, -, -, -, -, -, -, -, -, -, -, -, -, -, -, -, -, -, -, -, -, -, -, -, -, -, -, -, -, -, -, -, -, -, -, -, -, -, -, -, -, -, -, -, -, -, -, -, -⟩ := F
  refine aw_iload_n (npc := 1) rfl dX7_posts_0 rfl ?_
  refine aw_iconst (npc := 2) (v := 1) (by decide) dX7_posts_1 rfl ?_
  refine aw_bipush (npc := 4) (v := 100) (by decide) dX7_posts_2 rfl ?_
  refine aw_callS (npc := 7) (N := mX7_within) (mc := 0) (ms := 0) (A := [.int n, .int 1, .int 100]) (S := []) (L0 := [some (.int n), some (.int 1), some (.int 100)]) dX7_posts_4 rfl km_X7_within kk_X7_74 rfl ⟨rfl, by decide⟩ rfl (Nat.le_of_ble_eq_true rfl) (Nat.zero_add _) (Nat.zero_add _) rfl ?_
  refine c_X7_within (fun hw1 => ?_) (fun hw1 => ?_)
  · refine aw_re (S' := [.int 1]) rfl ?_
    refine aw_if_ne (npc := 10) (tgt := 13) dX7_posts_7 rfl (by decide) (fun _ => ?_) (fun hc => absurd hc (by decide))
    obtain ⟨N, hN, rfl⟩ := wi_nI (H := 100) rfl (by decide) hw1
    refine aw_aload_n (npc := 14) rfl dX7_posts_13 rfl ?_
    refine aw_get (npc := 17) dX7_posts_14 rfl kf_X7_10 f0 rfl ?_
    refine aw_iload_n (npc := 18) rfl dX7_posts_17 rfl ?_
    refine aw_sipush (npc := 21) (v := 9999) (by decide) dX7_posts_18 rfl ?_
    refine aw_aload_n (npc := 22) rfl dX7_posts_21 rfl ?_
    refine aw_get (npc := 25) dX7_posts_22 rfl kf_X7_10 f0 rfl ?_
    refine aw_get (npc := 28) dX7_posts_25 rfl kf_X7_160 f1 rfl ?_
    refine aw_isubV (npc := 29) (v := 9999) dX7_posts_28 rfl (by decide) ?_
    refine aw_mmin (npc := 32) dX7_posts_29 rfl kmm_X7_148 kmx_min (Nat.le_of_ble_eq_true rfl) ?_
    refine aw_top (y := nI N) (if_neg (nI_nlt (a := 9999) (b := N) (by omega) (by omega))) ?_
    refine aw_iconst (npc := 33) (v := -1) (by decide) dX7_posts_32 rfl ?_
    refine aw_callV (npc := 36) (N := mX0_runPosts) (b := 1) (mc := 0) (ms := 0) (A := [.int (nI N), .int (-1)]) (S := []) (L0 := [some (.ref 1), some (.int (nI N)), some (.int (-1)), none, none]) dX7_posts_33 rfl km_X0_runPosts kk_X7_163 f1 ⟨by decide, rfl⟩ rfl ⟨rfl, by decide⟩ rfl (Nat.le_of_ble_eq_true rfl) (Nat.zero_add _) (Nat.zero_add _) rfl ?_
    refine p_run_1 (hv := 0) (pt := 0) (N := N) ⟨by decide, by decide⟩ (by omega) ⟨f1, f2, f3, f4, f5, f6, f7, f8, f9, f10, f11, f12⟩ (fun h9 F3 fz2 => ?_)
    obtain ⟨a4_1, a4_2, a4_3, a4_4, a4_5, a4_6, a4_7, a4_8, a4_9, a4_10, a4_11, a4_12⟩ := F3
    refine aw_re (S' := [.int 0]) rfl ?_
    refine aw_iret rfl dX7_posts_36 ?_
    exact fin_c hq (am_frT (am_fb.fr (by decide) fz2) am_fr0) (show sp_posts (nI N) = 0 from (by unfold sp_posts; first | rfl | (simp only [wif_t hw1, wif_same, ite_self]; done) | (simp only [wif_t hw1, wif_same, ite_self]; rfl) | (simp [wif_t hw1, wif_same]; done)))
  · refine aw_re (S' := [.int 0]) rfl ?_
    refine aw_if_ne (npc := 10) (tgt := 13) dX7_posts_7 rfl (by decide) (fun hc => absurd (by decide) hc) (fun _ => ?_)
    refine aw_ldc (npc := 12) kc_X7_78 dX7_posts_10 rfl ?_
    refine aw_iret rfl dX7_posts_12 ?_
    exact fin_c hq am_fr0 (show sp_posts n = (-1000000001) from (by unfold sp_posts; first | rfl | (simp only [wif_f hw1, wif_same, ite_self]; done) | (simp only [wif_f hw1, wif_same, ite_self]; rfl) | (simp [wif_f hw1, wif_same]; done)))
set_option maxHeartbeats 40000000 in
set_option maxRecDepth 100000 in
theorem p_X7_behind {X : List Int32} {d rc rs : Nat} {h : am_H} {Q : am_Q} {n : Int32} {w : Int32} (F : f0_X7 h) (hq : ∀ h9, am_fr 69 h9 h → Q (some (.int (sp_behind n w))) 92 h9) : AW X mX7_behind (d + 14) rc rs 0 [some (.ref 0), some (.int n), some (.int w)] [] 92 h Q := by
  obtain ⟨f0, f1, f2, f3, f4, f5, f6, f7, f8, f9, f10, f11, f12, f13, f14, f15, f16, f17, f18, f19, f20, f21, f22, f23, f24, -, -, -, -, -, -, -, -, -, -, -, -, -, -, -, -, -, -, -, -, -, -, -, -, -, -, -, -, -, -, -, -, -, -, -, -, -, -, -, -, -, -, -, -⟩ := F
  refine aw_iload_n (npc := 1) rfl dX7_behind_0 rfl ?_
  refine aw_iconst (npc := 2) (v := 0) (by decide) dX7_behind_1 rfl ?_
  refine aw_bipush (npc := 4) (v := 100) (by decide) dX7_behind_2 rfl ?_
  refine aw_callS (npc := 7) (N := mX7_within) (mc := 0) (ms := 0) (A := [.int n, .int 0, .int 100]) (S := []) (L0 := [some (.int n), some (.int 0), some (.int 100)]) dX7_behind_4 rfl km_X7_within kk_X7_74 rfl ⟨rfl, by decide⟩ rfl (Nat.le_of_ble_eq_true rfl) (Nat.zero_add _) (Nat.zero_add _) rfl ?_
  refine c_X7_within (fun hw1 => ?_) (fun hw1 => ?_)
  · refine aw_re (S' := [.int 1]) rfl ?_
    refine aw_if_eq (npc := 10) (tgt := 19) dX7_behind_7 rfl (by decide) (fun hc => absurd hc (by decide)) (fun _ => ?_)
    refine aw_iload_n (npc := 11) rfl dX7_behind_10 rfl ?_
    refine aw_iconst (npc := 12) (v := 0) (by decide) dX7_behind_11 rfl ?_
    refine aw_iconst (npc := 13) (v := 3) (by decide) dX7_behind_12 rfl ?_
    refine aw_callS (npc := 16) (N := mX7_within) (mc := 0) (ms := 0) (A := [.int w, .int 0, .int 3]) (S := []) (L0 := [some (.int w), some (.int 0), some (.int 3)]) dX7_behind_13 rfl km_X7_within kk_X7_74 rfl ⟨rfl, by decide⟩ rfl (Nat.le_of_ble_eq_true rfl) (Nat.zero_add _) (Nat.zero_add _) rfl ?_
    refine c_X7_within (fun hw2 => ?_) (fun hw2 => ?_)
    · rcases wi_c0_3 hw2 with rfl | rfl | rfl | rfl
      · refine aw_re (S' := [.int 1]) rfl ?_
        refine aw_if_ne (npc := 19) (tgt := 22) dX7_behind_16 rfl (by decide) (fun _ => ?_) (fun hc => absurd hc (by decide))
        obtain ⟨N, hN, rfl⟩ := wi_nI (H := 100) rfl (by decide) hw1
        refine aw_aload_n (npc := 23) rfl dX7_behind_22 rfl ?_
        refine aw_get (npc := 26) dX7_behind_23 rfl kf_X7_16 f0 rfl ?_
        refine aw_aload_n (npc := 27) rfl dX7_behind_26 rfl ?_
        refine aw_get (npc := 30) dX7_behind_27 rfl kf_X7_10 f0 rfl ?_
        refine aw_callV (npc := 33) (N := mX0_becomes) (b := 13) (mc := 0) (ms := 0) (A := [.ref 1]) (S := []) (L0 := [some (.ref 13), some (.ref 1), none]) dX7_behind_30 rfl km_X0_becomes kk_X7_193 f13 ⟨by decide, rfl⟩ rfl ⟨rfl, by decide⟩ rfl (Nat.le_of_ble_eq_true rfl) (Nat.zero_add _) (Nat.zero_add _) rfl ?_
        refine p_bec_13 (hv := 0) (pt := 0) (hv2 := 0) (pt2 := 0) ⟨f1, f2, f3, f4, f5, f6, f7, f8, f9, f10, f11, f12⟩ ⟨f13, f14, f15, f16, f17, f18, f19, f20, f21, f22, f23, f24⟩ (fun h9 F4 fz3 => ?_)
        obtain ⟨a5_13, a5_14, a5_15, a5_16, a5_17, a5_18, a5_19, a5_20, a5_21, a5_22, a5_23, a5_24⟩ := F4
        refine aw_aload_n (npc := 34) rfl dX7_behind_33 rfl ?_
        refine aw_get (npc := 37) dX7_behind_34 rfl kf_X7_16 ((fz3 0 (by decide)).trans f0) rfl ?_
        refine aw_iload_n (npc := 38) rfl dX7_behind_37 rfl ?_
        refine aw_iconst (npc := 39) (v := -1) (by decide) dX7_behind_38 rfl ?_
        refine aw_callV (npc := 42) (N := mX0_runPosts) (b := 13) (mc := 0) (ms := 0) (A := [.int (nI N), .int (-1)]) (S := []) (L0 := [some (.ref 13), some (.int (nI N)), some (.int (-1)), none, none]) dX7_behind_39 rfl km_X0_runPosts kk_X7_163 a5_13 ⟨by decide, rfl⟩ rfl ⟨rfl, by decide⟩ rfl (Nat.le_of_ble_eq_true rfl) (Nat.zero_add _) (Nat.zero_add _) rfl ?_
        refine p_run_13 (hv := 0) (pt := 0) (N := N) ⟨by decide, by decide⟩ (by omega) ⟨a5_13, a5_14, a5_15, a5_16, a5_17, a5_18, a5_19, a5_20, a5_21, a5_22, a5_23, a5_24⟩ (fun h9 F7 fz6 => ?_)
        obtain ⟨a8_13, a8_14, a8_15, a8_16, a8_17, a8_18, a8_19, a8_20, a8_21, a8_22, a8_23, a8_24⟩ := F7
        refine aw_re (S' := [.int 0]) rfl ?_
        refine aw_pop (npc := 43) rfl dX7_behind_42 rfl ?_
        refine aw_iload_n (npc := 44) rfl dX7_behind_43 rfl ?_
        refine aw_tableIn (npc := 72) dX7_behind_44 (by decide) (by decide) rfl (by decide) ?_
        refine aw_aload_n (npc := 73) rfl dX7_behind_72 rfl ?_
        refine aw_get (npc := 76) dX7_behind_73 rfl kf_X7_16 ((fz6 0 (by decide)).trans ((fz3 0 (by decide)).trans f0)) rfl ?_
        refine aw_get (npc := 79) dX7_behind_76 rfl kf_X7_139 a8_13 rfl ?_
        refine aw_iret rfl dX7_behind_79 ?_
        exact fin_c hq (am_frT (am_fb.fr (by decide) fz6) (am_frT (am_fb.fr (by decide) fz3) am_fr0)) (show sp_behind (nI N) 0 = 0 from (by unfold sp_behind; first | rfl | (simp only [wif_t hw1, wif_t hw2, wif_same, ite_self]; done) | (simp only [wif_t hw1, wif_t hw2, wif_same, ite_self]; rfl) | (simp [wif_t hw1, wif_t hw2, wif_same]; done)))
      · refine aw_re (S' := [.int 1]) rfl ?_
        refine aw_if_ne (npc := 19) (tgt := 22) dX7_behind_16 rfl (by decide) (fun _ => ?_) (fun hc => absurd hc (by decide))
        obtain ⟨N, hN, rfl⟩ := wi_nI (H := 100) rfl (by decide) hw1
        refine aw_aload_n (npc := 23) rfl dX7_behind_22 rfl ?_
        refine aw_get (npc := 26) dX7_behind_23 rfl kf_X7_16 f0 rfl ?_
        refine aw_aload_n (npc := 27) rfl dX7_behind_26 rfl ?_
        refine aw_get (npc := 30) dX7_behind_27 rfl kf_X7_10 f0 rfl ?_
        refine aw_callV (npc := 33) (N := mX0_becomes) (b := 13) (mc := 0) (ms := 0) (A := [.ref 1]) (S := []) (L0 := [some (.ref 13), some (.ref 1), none]) dX7_behind_30 rfl km_X0_becomes kk_X7_193 f13 ⟨by decide, rfl⟩ rfl ⟨rfl, by decide⟩ rfl (Nat.le_of_ble_eq_true rfl) (Nat.zero_add _) (Nat.zero_add _) rfl ?_
        refine p_bec_13 (hv := 0) (pt := 0) (hv2 := 0) (pt2 := 0) ⟨f1, f2, f3, f4, f5, f6, f7, f8, f9, f10, f11, f12⟩ ⟨f13, f14, f15, f16, f17, f18, f19, f20, f21, f22, f23, f24⟩ (fun h9 F10 fz9 => ?_)
        obtain ⟨a11_13, a11_14, a11_15, a11_16, a11_17, a11_18, a11_19, a11_20, a11_21, a11_22, a11_23, a11_24⟩ := F10
        refine aw_aload_n (npc := 34) rfl dX7_behind_33 rfl ?_
        refine aw_get (npc := 37) dX7_behind_34 rfl kf_X7_16 ((fz9 0 (by decide)).trans f0) rfl ?_
        refine aw_iload_n (npc := 38) rfl dX7_behind_37 rfl ?_
        refine aw_iconst (npc := 39) (v := -1) (by decide) dX7_behind_38 rfl ?_
        refine aw_callV (npc := 42) (N := mX0_runPosts) (b := 13) (mc := 0) (ms := 0) (A := [.int (nI N), .int (-1)]) (S := []) (L0 := [some (.ref 13), some (.int (nI N)), some (.int (-1)), none, none]) dX7_behind_39 rfl km_X0_runPosts kk_X7_163 a11_13 ⟨by decide, rfl⟩ rfl ⟨rfl, by decide⟩ rfl (Nat.le_of_ble_eq_true rfl) (Nat.zero_add _) (Nat.zero_add _) rfl ?_
        refine p_run_13 (hv := 0) (pt := 0) (N := N) ⟨by decide, by decide⟩ (by omega) ⟨a11_13, a11_14, a11_15, a11_16, a11_17, a11_18, a11_19, a11_20, a11_21, a11_22, a11_23, a11_24⟩ (fun h9 F13 fz12 => ?_)
        obtain ⟨a14_13, a14_14, a14_15, a14_16, a14_17, a14_18, a14_19, a14_20, a14_21, a14_22, a14_23, a14_24⟩ := F13
        refine aw_re (S' := [.int 0]) rfl ?_
        refine aw_pop (npc := 43) rfl dX7_behind_42 rfl ?_
        refine aw_iload_n (npc := 44) rfl dX7_behind_43 rfl ?_
        refine aw_tableIn (npc := 80) dX7_behind_44 (by decide) (by decide) rfl (by decide) ?_
        refine aw_aload_n (npc := 81) rfl dX7_behind_80 rfl ?_
        refine aw_get (npc := 84) dX7_behind_81 rfl kf_X7_16 ((fz12 0 (by decide)).trans ((fz9 0 (by decide)).trans f0)) rfl ?_
        refine aw_callV (npc := 87) (N := mX0_standsAsNumber) (b := 13) (mc := 0) (ms := 0) (A := []) (S := []) (L0 := [some (.ref 13), none, none]) dX7_behind_84 rfl km_X0_standsAsNumber kk_X7_173 a14_13 ⟨by decide, rfl⟩ rfl ⟨rfl, by decide⟩ rfl (Nat.le_of_ble_eq_true rfl) (Nat.zero_add _) (Nat.zero_add _) rfl ?_
        refine aw_iconst (npc := 1) (v := 0) (by decide) dX0_standsAsNumber_0 rfl ?_
        refine aw_istore_n (npc := 2) (L' := [some (.ref 13), some (.int 0), none]) dX0_standsAsNumber_1 rfl (by decide) rfl rfl ?_
        refine aw_iconst (npc := 3) (v := 0) (by decide) dX0_standsAsNumber_2 rfl ?_
        refine aw_istore_n (npc := 4) (L' := [some (.ref 13), some (.int 0), some (.int 0)]) dX0_standsAsNumber_3 rfl (by decide) rfl rfl ?_
        refine aw_iload_n (npc := 5) rfl dX0_standsAsNumber_4 rfl ?_
        refine aw_iconst (npc := 6) (v := 4) (by decide) dX0_standsAsNumber_5 rfl ?_
        refine aw_icmp_ge (npc := 9) (tgt := 27) dX0_standsAsNumber_6 rfl (by decide) (fun hc => absurd hc (by decide)) (fun _ => ?_)
        refine aw_iload_n (npc := 10) rfl dX0_standsAsNumber_9 rfl ?_
        refine aw_bipush (npc := 12) (v := 10) (by decide) dX0_standsAsNumber_10 rfl ?_
        refine aw_imulV (npc := 13) (v := 0) dX0_standsAsNumber_12 rfl (by decide) ?_
        refine aw_aload_n (npc := 14) rfl dX0_standsAsNumber_13 rfl ?_
        refine aw_get (npc := 17) dX0_standsAsNumber_14 rfl kf_X0_9 a14_13 rfl ?_
        refine aw_iload_n (npc := 18) rfl dX0_standsAsNumber_17 rfl ?_
        refine aw_iald (npc := 19) (x := 5) (j := 0) dX0_standsAsNumber_18 rfl a14_14 ⟨by decide, by decide⟩ rfl ?_
        refine aw_iaddV (npc := 20) (v := 5) dX0_standsAsNumber_19 rfl (by decide) ?_
        refine aw_istore_n (npc := 21) (L' := [some (.ref 13), some (.int 5), some (.int 0)]) dX0_standsAsNumber_20 rfl (by decide) rfl rfl ?_
        refine aw_iinc (npc := 24) (v := 1) (L' := [some (.ref 13), some (.int 5), some (.int 1)]) dX0_standsAsNumber_21 rfl rfl (by decide) (by decide) rfl rfl ?_
        refine aw_goto (npc := 4) dX0_standsAsNumber_24 (by decide) ?_
        refine aw_iload_n (npc := 5) rfl dX0_standsAsNumber_4 rfl ?_
        refine aw_iconst (npc := 6) (v := 4) (by decide) dX0_standsAsNumber_5 rfl ?_
        refine aw_icmp_ge (npc := 9) (tgt := 27) dX0_standsAsNumber_6 rfl (by decide) (fun hc => absurd hc (by decide)) (fun _ => ?_)
        refine aw_iload_n (npc := 10) rfl dX0_standsAsNumber_9 rfl ?_
        refine aw_bipush (npc := 12) (v := 10) (by decide) dX0_standsAsNumber_10 rfl ?_
        refine aw_imulV (npc := 13) (v := 50) dX0_standsAsNumber_12 rfl (by decide) ?_
        refine aw_aload_n (npc := 14) rfl dX0_standsAsNumber_13 rfl ?_
        refine aw_get (npc := 17) dX0_standsAsNumber_14 rfl kf_X0_9 a14_13 rfl ?_
        refine aw_iload_n (npc := 18) rfl dX0_standsAsNumber_17 rfl ?_
        refine aw_iald (npc := 19) (x := 5) (j := 1) dX0_standsAsNumber_18 rfl a14_14 ⟨by decide, by decide⟩ rfl ?_
        refine aw_iaddV (npc := 20) (v := 55) dX0_standsAsNumber_19 rfl (by decide) ?_
        refine aw_istore_n (npc := 21) (L' := [some (.ref 13), some (.int 55), some (.int 1)]) dX0_standsAsNumber_20 rfl (by decide) rfl rfl ?_
        refine aw_iinc (npc := 24) (v := 2) (L' := [some (.ref 13), some (.int 55), some (.int 2)]) dX0_standsAsNumber_21 rfl rfl (by decide) (by decide) rfl rfl ?_
        refine aw_goto (npc := 4) dX0_standsAsNumber_24 (by decide) ?_
        refine aw_iload_n (npc := 5) rfl dX0_standsAsNumber_4 rfl ?_
        refine aw_iconst (npc := 6) (v := 4) (by decide) dX0_standsAsNumber_5 rfl ?_
        refine aw_icmp_ge (npc := 9) (tgt := 27) dX0_standsAsNumber_6 rfl (by decide) (fun hc => absurd hc (by decide)) (fun _ => ?_)
        refine aw_iload_n (npc := 10) rfl dX0_standsAsNumber_9 rfl ?_
        refine aw_bipush (npc := 12) (v := 10) (by decide) dX0_standsAsNumber_10 rfl ?_
        refine aw_imulV (npc := 13) (v := 550) dX0_standsAsNumber_12 rfl (by decide) ?_
        refine aw_aload_n (npc := 14) rfl dX0_standsAsNumber_13 rfl ?_
        refine aw_get (npc := 17) dX0_standsAsNumber_14 rfl kf_X0_9 a14_13 rfl ?_
        refine aw_iload_n (npc := 18) rfl dX0_standsAsNumber_17 rfl ?_
        refine aw_iald (npc := 19) (x := 5) (j := 2) dX0_standsAsNumber_18 rfl a14_14 ⟨by decide, by decide⟩ rfl ?_
        refine aw_iaddV (npc := 20) (v := 555) dX0_standsAsNumber_19 rfl (by decide) ?_
        refine aw_istore_n (npc := 21) (L' := [some (.ref 13), some (.int 555), some (.int 2)]) dX0_standsAsNumber_20 rfl (by decide) rfl rfl ?_
        refine aw_iinc (npc := 24) (v := 3) (L' := [some (.ref 13), some (.int 555), some (.int 3)]) dX0_standsAsNumber_21 rfl rfl (by decide) (by decide) rfl rfl ?_
        refine aw_goto (npc := 4) dX0_standsAsNumber_24 (by decide) ?_
        refine aw_iload_n (npc := 5) rfl dX0_standsAsNumber_4 rfl ?_
        refine aw_iconst (npc := 6) (v := 4) (by decide) dX0_standsAsNumber_5 rfl ?_
        refine aw_icmp_ge (npc := 9) (tgt := 27) dX0_standsAsNumber_6 rfl (by decide) (fun hc => absurd hc (by decide)) (fun _ => ?_)
        refine aw_iload_n (npc := 10) rfl dX0_standsAsNumber_9 rfl ?_
        refine aw_bipush (npc := 12) (v := 10) (by decide) dX0_standsAsNumber_10 rfl ?_
        refine aw_imulV (npc := 13) (v := 5550) dX0_standsAsNumber_12 rfl (by decide) ?_
        refine aw_aload_n (npc := 14) rfl dX0_standsAsNumber_13 rfl ?_
        refine aw_get (npc := 17) dX0_standsAsNumber_14 rfl kf_X0_9 a14_13 rfl ?_
        refine aw_iload_n (npc := 18) rfl dX0_standsAsNumber_17 rfl ?_
        refine aw_iald (npc := 19) (x := 5) (j := 3) dX0_standsAsNumber_18 rfl a14_14 ⟨by decide, by decide⟩ rfl ?_
        refine aw_iaddV (npc := 20) (v := 5555) dX0_standsAsNumber_19 rfl (by decide) ?_
        refine aw_istore_n (npc := 21) (L' := [some (.ref 13), some (.int 5555), some (.int 3)]) dX0_standsAsNumber_20 rfl (by decide) rfl rfl ?_
        refine aw_iinc (npc := 24) (v := 4) (L' := [some (.ref 13), some (.int 5555), some (.int 4)]) dX0_standsAsNumber_21 rfl rfl (by decide) (by decide) rfl rfl ?_
        refine aw_goto (npc := 4) dX0_standsAsNumber_24 (by decide) ?_
        refine aw_iload_n (npc := 5) rfl dX0_standsAsNumber_4 rfl ?_
        refine aw_iconst (npc := 6) (v := 4) (by decide) dX0_standsAsNumber_5 rfl ?_
        refine aw_icmp_ge (npc := 9) (tgt := 27) dX0_standsAsNumber_6 rfl (by decide) (fun _ => ?_) (fun hc => absurd (by decide) hc)
        refine aw_iload_n (npc := 28) rfl dX0_standsAsNumber_27 rfl ?_
        refine aw_iret rfl dX0_standsAsNumber_28 ?_
        refine aw_re (S' := [.int 5555]) rfl ?_
        refine aw_iret rfl dX7_behind_87 ?_
        exact fin_c hq (am_frT (am_fb.fr (by decide) fz12) (am_frT (am_fb.fr (by decide) fz9) am_fr0)) (show sp_behind (nI N) 1 = 5555 from (by unfold sp_behind; first | rfl | (simp only [wif_t hw1, wif_t hw2, wif_same, ite_self]; done) | (simp only [wif_t hw1, wif_t hw2, wif_same, ite_self]; rfl) | (simp [wif_t hw1, wif_t hw2, wif_same]; done)))
      · refine aw_re (S' := [.int 1]) rfl ?_
        refine aw_if_ne (npc := 19) (tgt := 22) dX7_behind_16 rfl (by decide) (fun _ => ?_) (fun hc => absurd hc (by decide))
        obtain ⟨N, hN, rfl⟩ := wi_nI (H := 100) rfl (by decide) hw1
        refine aw_aload_n (npc := 23) rfl dX7_behind_22 rfl ?_
        refine aw_get (npc := 26) dX7_behind_23 rfl kf_X7_16 f0 rfl ?_
        refine aw_aload_n (npc := 27) rfl dX7_behind_26 rfl ?_
        refine aw_get (npc := 30) dX7_behind_27 rfl kf_X7_10 f0 rfl ?_
        refine aw_callV (npc := 33) (N := mX0_becomes) (b := 13) (mc := 0) (ms := 0) (A := [.ref 1]) (S := []) (L0 := [some (.ref 13), some (.ref 1), none]) dX7_behind_30 rfl km_X0_becomes kk_X7_193 f13 ⟨by decide, rfl⟩ rfl ⟨rfl, by decide⟩ rfl (Nat.le_of_ble_eq_true rfl) (Nat.zero_add _) (Nat.zero_add _) rfl ?_
        refine p_bec_13 (hv := 0) (pt := 0) (hv2 := 0) (pt2 := 0) ⟨f1, f2, f3, f4, f5, f6, f7, f8, f9, f10, f11, f12⟩ ⟨f13, f14, f15, f16, f17, f18, f19, f20, f21, f22, f23, f24⟩ (fun h9 F16 fz15 => ?_)
        obtain ⟨a17_13, a17_14, a17_15, a17_16, a17_17, a17_18, a17_19, a17_20, a17_21, a17_22, a17_23, a17_24⟩ := F16
        refine aw_aload_n (npc := 34) rfl dX7_behind_33 rfl ?_
        refine aw_get (npc := 37) dX7_behind_34 rfl kf_X7_16 ((fz15 0 (by decide)).trans f0) rfl ?_
        refine aw_iload_n (npc := 38) rfl dX7_behind_37 rfl ?_
        refine aw_iconst (npc := 39) (v := -1) (by decide) dX7_behind_38 rfl ?_
        refine aw_callV (npc := 42) (N := mX0_runPosts) (b := 13) (mc := 0) (ms := 0) (A := [.int (nI N), .int (-1)]) (S := []) (L0 := [some (.ref 13), some (.int (nI N)), some (.int (-1)), none, none]) dX7_behind_39 rfl km_X0_runPosts kk_X7_163 a17_13 ⟨by decide, rfl⟩ rfl ⟨rfl, by decide⟩ rfl (Nat.le_of_ble_eq_true rfl) (Nat.zero_add _) (Nat.zero_add _) rfl ?_
        refine p_run_13 (hv := 0) (pt := 0) (N := N) ⟨by decide, by decide⟩ (by omega) ⟨a17_13, a17_14, a17_15, a17_16, a17_17, a17_18, a17_19, a17_20, a17_21, a17_22, a17_23, a17_24⟩ (fun h9 F19 fz18 => ?_)
        obtain ⟨a20_13, a20_14, a20_15, a20_16, a20_17, a20_18, a20_19, a20_20, a20_21, a20_22, a20_23, a20_24⟩ := F19
        refine aw_re (S' := [.int 0]) rfl ?_
        refine aw_pop (npc := 43) rfl dX7_behind_42 rfl ?_
        refine aw_iload_n (npc := 44) rfl dX7_behind_43 rfl ?_
        refine aw_tableIn (npc := 88) dX7_behind_44 (by decide) (by decide) rfl (by decide) ?_
        refine aw_aload_n (npc := 89) rfl dX7_behind_88 rfl ?_
        refine aw_get (npc := 92) dX7_behind_89 rfl kf_X7_16 ((fz18 0 (by decide)).trans ((fz15 0 (by decide)).trans f0)) rfl ?_
        refine aw_callV (npc := 95) (N := mX0_isPeace) (b := 13) (mc := 0) (ms := 0) (A := []) (S := []) (L0 := [some (.ref 13)]) dX7_behind_92 rfl km_X0_isPeace kk_X7_169 a20_13 ⟨by decide, rfl⟩ rfl ⟨rfl, by decide⟩ rfl (Nat.le_of_ble_eq_true rfl) (Nat.zero_add _) (Nat.zero_add _) rfl ?_
        refine p_peace_13 (hv := 0) (pt := (0 + nI N)) ⟨a20_13, a20_14, a20_15, a20_16, a20_17, a20_18, a20_19, a20_20, a20_21, a20_22, a20_23, a20_24⟩ ?_
        refine aw_re (S' := [.int 0]) rfl ?_
        refine aw_if_eq (npc := 98) (tgt := 102) dX7_behind_95 rfl (by decide) (fun _ => ?_) (fun hc => absurd (by decide) hc)
        refine aw_iconst (npc := 103) (v := 0) (by decide) dX7_behind_102 rfl ?_
        refine aw_iret rfl dX7_behind_103 ?_
        exact fin_c hq (am_frT (am_fb.fr (by decide) fz18) (am_frT (am_fb.fr (by decide) fz15) am_fr0)) (show sp_behind (nI N) 2 = 0 from (by unfold sp_behind; first | rfl | (simp only [wif_t hw1, wif_t hw2, wif_same, ite_self]; done) | (simp only [wif_t hw1, wif_t hw2, wif_same, ite_self]; rfl) | (simp [wif_t hw1, wif_t hw2, wif_same]; done)))
      · refine aw_re (S' := [.int 1]) rfl ?_
        refine aw_if_ne (npc := 19) (tgt := 22) dX7_behind_16 rfl (by decide) (fun _ => ?_) (fun hc => absurd hc (by decide))
        obtain ⟨N, hN, rfl⟩ := wi_nI (H := 100) rfl (by decide) hw1
        refine aw_aload_n (npc := 23) rfl dX7_behind_22 rfl ?_
        refine aw_get (npc := 26) dX7_behind_23 rfl kf_X7_16 f0 rfl ?_
        refine aw_aload_n (npc := 27) rfl dX7_behind_26 rfl ?_
        refine aw_get (npc := 30) dX7_behind_27 rfl kf_X7_10 f0 rfl ?_
        refine aw_callV (npc := 33) (N := mX0_becomes) (b := 13) (mc := 0) (ms := 0) (A := [.ref 1]) (S := []) (L0 := [some (.ref 13), some (.ref 1), none]) dX7_behind_30 rfl km_X0_becomes kk_X7_193 f13 ⟨by decide, rfl⟩ rfl ⟨rfl, by decide⟩ rfl (Nat.le_of_ble_eq_true rfl) (Nat.zero_add _) (Nat.zero_add _) rfl ?_
        refine p_bec_13 (hv := 0) (pt := 0) (hv2 := 0) (pt2 := 0) ⟨f1, f2, f3, f4, f5, f6, f7, f8, f9, f10, f11, f12⟩ ⟨f13, f14, f15, f16, f17, f18, f19, f20, f21, f22, f23, f24⟩ (fun h9 F22 fz21 => ?_)
        obtain ⟨a23_13, a23_14, a23_15, a23_16, a23_17, a23_18, a23_19, a23_20, a23_21, a23_22, a23_23, a23_24⟩ := F22
        refine aw_aload_n (npc := 34) rfl dX7_behind_33 rfl ?_
        refine aw_get (npc := 37) dX7_behind_34 rfl kf_X7_16 ((fz21 0 (by decide)).trans f0) rfl ?_
        refine aw_iload_n (npc := 38) rfl dX7_behind_37 rfl ?_
        refine aw_iconst (npc := 39) (v := -1) (by decide) dX7_behind_38 rfl ?_
        refine aw_callV (npc := 42) (N := mX0_runPosts) (b := 13) (mc := 0) (ms := 0) (A := [.int (nI N), .int (-1)]) (S := []) (L0 := [some (.ref 13), some (.int (nI N)), some (.int (-1)), none, none]) dX7_behind_39 rfl km_X0_runPosts kk_X7_163 a23_13 ⟨by decide, rfl⟩ rfl ⟨rfl, by decide⟩ rfl (Nat.le_of_ble_eq_true rfl) (Nat.zero_add _) (Nat.zero_add _) rfl ?_
        refine p_run_13 (hv := 0) (pt := 0) (N := N) ⟨by decide, by decide⟩ (by omega) ⟨a23_13, a23_14, a23_15, a23_16, a23_17, a23_18, a23_19, a23_20, a23_21, a23_22, a23_23, a23_24⟩ (fun h9 F25 fz24 => ?_)
        obtain ⟨a26_13, a26_14, a26_15, a26_16, a26_17, a26_18, a26_19, a26_20, a26_21, a26_22, a26_23, a26_24⟩ := F25
        refine aw_re (S' := [.int 0]) rfl ?_
        refine aw_pop (npc := 43) rfl dX7_behind_42 rfl ?_
        refine aw_iload_n (npc := 44) rfl dX7_behind_43 rfl ?_
        refine aw_tableOut (npc := 104) dX7_behind_44 (by decide) (by decide) ?_
        refine aw_aload_n (npc := 105) rfl dX7_behind_104 rfl ?_
        refine aw_get (npc := 108) dX7_behind_105 rfl kf_X7_16 ((fz24 0 (by decide)).trans ((fz21 0 (by decide)).trans f0)) rfl ?_
        refine aw_get (npc := 111) dX7_behind_108 rfl kf_X7_176 a26_13 rfl ?_
        refine aw_iret rfl dX7_behind_111 ?_
        exact fin_c hq (am_frT (am_fb.fr (by decide) fz24) (am_frT (am_fb.fr (by decide) fz21) am_fr0)) (show sp_behind (nI N) 3 = 0 from (by unfold sp_behind; first | rfl | (simp only [wif_t hw1, wif_t hw2, wif_same, ite_self]; done) | (simp only [wif_t hw1, wif_t hw2, wif_same, ite_self]; rfl) | (simp [wif_t hw1, wif_t hw2, wif_same]; done)))
    · refine aw_re (S' := [.int 0]) rfl ?_
      refine aw_if_ne (npc := 19) (tgt := 22) dX7_behind_16 rfl (by decide) (fun hc => absurd (by decide) hc) (fun _ => ?_)
      refine aw_ldc (npc := 21) kc_X7_78 dX7_behind_19 rfl ?_
      refine aw_iret rfl dX7_behind_21 ?_
      exact fin_c hq am_fr0 (show sp_behind n w = (-1000000001) from (by unfold sp_behind; first | rfl | (simp only [wif_t hw1, wif_f hw2, if_neg (ne_nwi hw2 (k := 0) ⟨by decide, by decide⟩), if_neg (ne_nwi hw2 (k := 1) ⟨by decide, by decide⟩), if_neg (ne_nwi hw2 (k := 2) ⟨by decide, by decide⟩), if_neg (ne_nwi hw2 (k := 3) ⟨by decide, by decide⟩), wif_same, ite_self]; done) | (simp only [wif_t hw1, wif_f hw2, if_neg (ne_nwi hw2 (k := 0) ⟨by decide, by decide⟩), if_neg (ne_nwi hw2 (k := 1) ⟨by decide, by decide⟩), if_neg (ne_nwi hw2 (k := 2) ⟨by decide, by decide⟩), if_neg (ne_nwi hw2 (k := 3) ⟨by decide, by decide⟩), wif_same, ite_self]; rfl) | (simp [wif_t hw1, wif_f hw2, if_neg (ne_nwi hw2 (k := 0) ⟨by decide, by decide⟩), if_neg (ne_nwi hw2 (k := 1) ⟨by decide, by decide⟩), if_neg (ne_nwi hw2 (k := 2) ⟨by decide, by decide⟩), if_neg (ne_nwi hw2 (k := 3) ⟨by decide, by decide⟩), wif_same]; done)))
  · refine aw_re (S' := [.int 0]) rfl ?_
    refine aw_if_eq (npc := 10) (tgt := 19) dX7_behind_7 rfl (by decide) (fun _ => ?_) (fun hc => absurd (by decide) hc)
    refine aw_ldc (npc := 21) kc_X7_78 dX7_behind_19 rfl ?_
    refine aw_iret rfl dX7_behind_21 ?_
    exact fin_c hq am_fr0 (show sp_behind n w = (-1000000001) from (by unfold sp_behind; first | rfl | (simp only [wif_f hw1, wif_same, ite_self]; done) | (simp only [wif_f hw1, wif_same, ite_self]; rfl) | (simp [wif_f hw1, wif_same]; done)))
set_option maxHeartbeats 40000000 in
set_option maxRecDepth 100000 in
theorem p_X7_held {X : List Int32} {d rc rs : Nat} {h : am_H} {Q : am_Q} {n : Int32} (F : f0_X7 h) (hq : ∀ h9, am_fr 69 h9 h → Q (some (.int (sp_held n))) 92 h9) : AW X mX7_held (d + 14) rc rs 0 [some (.ref 0), some (.int n), none, none] [] 92 h Q := by
  obtain ⟨f0, f1, f2, f3, f4, f5, f6, f7, f8, f9, f10, f11, f12, f13, f14, f15, f16, f17, f18, f19, f20, f21, f22, f23, f24, -, -, -, -, -, -, -, -, -, -, -, -, -, -, -, -, -, -, -, -, -, -, -, -, -, -, -, -, -, -, -, -, -, -, -, -, -, -, -, -, -, -, -, -⟩ := F
  refine aw_iload_n (npc := 1) rfl dX7_held_0 rfl ?_
  refine aw_iconst (npc := 2) (v := 1) (by decide) dX7_held_1 rfl ?_
  refine aw_bipush (npc := 4) (v := 60) (by decide) dX7_held_2 rfl ?_
  refine aw_callS (npc := 7) (N := mX7_within) (mc := 0) (ms := 0) (A := [.int n, .int 1, .int 60]) (S := []) (L0 := [some (.int n), some (.int 1), some (.int 60)]) dX7_held_4 rfl km_X7_within kk_X7_74 rfl ⟨rfl, by decide⟩ rfl (Nat.le_of_ble_eq_true rfl) (Nat.zero_add _) (Nat.zero_add _) rfl ?_
  refine c_X7_within (fun hw1 => ?_) (fun hw1 => ?_)
  · refine aw_re (S' := [.int 1]) rfl ?_
    refine aw_if_ne (npc := 10) (tgt := 13) dX7_held_7 rfl (by decide) (fun _ => ?_) (fun hc => absurd hc (by decide))
    obtain ⟨N, hN, rfl⟩ := wi_nI (H := 60) rfl (by decide) hw1
    refine aw_aload_n (npc := 14) rfl dX7_held_13 rfl ?_
    refine aw_iconst (npc := 15) (v := -1) (by decide) dX7_held_14 rfl ?_
    refine aw_iload_n (npc := 16) rfl dX7_held_15 rfl ?_
    refine aw_callV (npc := 19) (N := mX7_peaceWithout) (b := 0) (mc := 0) (ms := 0) (A := [.int (-1), .int (nI N)]) (S := []) (L0 := [some (.ref 0), some (.int (-1)), some (.int (nI N))]) dX7_held_16 rfl km_X7_peaceWithout kk_X7_201 f0 ⟨by decide, rfl⟩ rfl ⟨rfl, by decide⟩ rfl (Nat.le_of_ble_eq_true rfl) (Nat.zero_add _) (Nat.zero_add _) rfl ?_
    refine aw_aload_n (npc := 1) rfl dX7_peaceWithout_0 rfl ?_
    refine aw_get (npc := 4) dX7_peaceWithout_1 rfl kf_X7_16 f0 rfl ?_
    refine aw_aload_n (npc := 5) rfl dX7_peaceWithout_4 rfl ?_
    refine aw_get (npc := 8) dX7_peaceWithout_5 rfl kf_X7_10 f0 rfl ?_
    refine aw_callV (npc := 11) (N := mX0_becomes) (b := 13) (mc := 0) (ms := 0) (A := [.ref 1]) (S := []) (L0 := [some (.ref 13), some (.ref 1), none]) dX7_peaceWithout_8 rfl km_X0_becomes kk_X7_193 f13 ⟨by decide, rfl⟩ rfl ⟨rfl, by decide⟩ rfl (Nat.le_of_ble_eq_true rfl) (Nat.zero_add _) (Nat.zero_add _) rfl ?_
    refine p_bec_13 (hv := 0) (pt := 0) (hv2 := 0) (pt2 := 0) ⟨f1, f2, f3, f4, f5, f6, f7, f8, f9, f10, f11, f12⟩ ⟨f13, f14, f15, f16, f17, f18, f19, f20, f21, f22, f23, f24⟩ (fun h9 F3 fz2 => ?_)
    obtain ⟨a4_13, a4_14, a4_15, a4_16, a4_17, a4_18, a4_19, a4_20, a4_21, a4_22, a4_23, a4_24⟩ := F3
    refine aw_aload_n (npc := 12) rfl dX7_peaceWithout_11 rfl ?_
    refine aw_get (npc := 15) dX7_peaceWithout_12 rfl kf_X7_16 ((fz2 0 (by decide)).trans f0) rfl ?_
    refine aw_iload_n (npc := 16) rfl dX7_peaceWithout_15 rfl ?_
    refine aw_iload_n (npc := 17) rfl dX7_peaceWithout_16 rfl ?_
    refine aw_callV (npc := 20) (N := mX0_runPosts) (b := 13) (mc := 0) (ms := 0) (A := [.int (nI N), .int (-1)]) (S := []) (L0 := [some (.ref 13), some (.int (nI N)), some (.int (-1)), none, none]) dX7_peaceWithout_17 rfl km_X0_runPosts kk_X7_163 a4_13 ⟨by decide, rfl⟩ rfl ⟨rfl, by decide⟩ rfl (Nat.le_of_ble_eq_true rfl) (Nat.zero_add _) (Nat.zero_add _) rfl ?_
    refine p_run_13 (hv := 0) (pt := 0) (N := N) ⟨by decide, by decide⟩ (by omega) ⟨a4_13, a4_14, a4_15, a4_16, a4_17, a4_18, a4_19, a4_20, a4_21, a4_22, a4_23, a4_24⟩ (fun h9 F6 fz5 => ?_)
    obtain ⟨a7_13, a7_14, a7_15, a7_16, a7_17, a7_18, a7_19, a7_20, a7_21, a7_22, a7_23, a7_24⟩ := F6
    refine aw_re (S' := [.int 0]) rfl ?_
    refine aw_pop (npc := 21) rfl dX7_peaceWithout_20 rfl ?_
    refine aw_aload_n (npc := 22) rfl dX7_peaceWithout_21 rfl ?_
    refine aw_get (npc := 25) dX7_peaceWithout_22 rfl kf_X7_16 ((fz5 0 (by decide)).trans ((fz2 0 (by decide)).trans f0)) rfl ?_
    refine aw_callV (npc := 28) (N := mX0_isPeace) (b := 13) (mc := 0) (ms := 0) (A := []) (S := []) (L0 := [some (.ref 13)]) dX7_peaceWithout_25 rfl km_X0_isPeace kk_X7_169 a7_13 ⟨by decide, rfl⟩ rfl ⟨rfl, by decide⟩ rfl (Nat.le_of_ble_eq_true rfl) (Nat.zero_add _) (Nat.zero_add _) rfl ?_
    refine p_peace_13 (hv := 0) (pt := (0 + nI N)) ⟨a7_13, a7_14, a7_15, a7_16, a7_17, a7_18, a7_19, a7_20, a7_21, a7_22, a7_23, a7_24⟩ ?_
    refine aw_re (S' := [.int 0]) rfl ?_
    refine aw_zret rfl rfl dX7_peaceWithout_28 ?_
    refine aw_re (S' := [.int 0]) rfl ?_
    refine aw_if_eq (npc := 22) (tgt := 24) dX7_held_19 rfl (by decide) (fun _ => ?_) (fun hc => absurd (by decide) hc)
    refine aw_iconst (npc := 25) (v := 0) (by decide) dX7_held_24 rfl ?_
    refine aw_istore_n (npc := 26) (L' := [some (.ref 0), some (.int (nI N)), some (.int 0), none]) dX7_held_25 rfl (by decide) rfl rfl ?_
    refine aw_iconst (npc := 27) (v := 0) (by decide) dX7_held_26 rfl ?_
    refine aw_istore_n (npc := 28) (L' := [some (.ref 0), some (.int (nI N)), some (.int 0), some (.int 0)]) dX7_held_27 rfl (by decide) rfl rfl ?_
    refine aw_iload_n (npc := 29) rfl dX7_held_28 rfl ?_
    refine aw_aload_n (npc := 30) rfl dX7_held_29 rfl ?_
    refine aw_get (npc := 33) dX7_held_30 rfl kf_X7_10 ((fz5 0 (by decide)).trans ((fz2 0 (by decide)).trans f0)) rfl ?_
    refine aw_get (npc := 36) dX7_held_33 rfl kf_X7_79 ((fz5 1 (by decide)).trans ((fz2 1 (by decide)).trans f1)) rfl ?_
    refine aw_icmp_ge (npc := 39) (tgt := 60) dX7_held_36 rfl (by decide) (fun _ => ?_) (fun hc => absurd (by decide) hc)
    refine aw_iload_n (npc := 61) rfl dX7_held_60 rfl ?_
    refine aw_iret rfl dX7_held_61 ?_
    exact fin_c hq (am_frT (am_fb.fr (by decide) fz5) (am_frT (am_fb.fr (by decide) fz2) am_fr0)) (show sp_held (nI N) = 0 from (by unfold sp_held; first | rfl | (simp only [wif_t hw1, wif_same, ite_self]; done) | (simp only [wif_t hw1, wif_same, ite_self]; rfl) | (simp [wif_t hw1, wif_same]; done)))
  · refine aw_re (S' := [.int 0]) rfl ?_
    refine aw_if_ne (npc := 10) (tgt := 13) dX7_held_7 rfl (by decide) (fun hc => absurd (by decide) hc) (fun _ => ?_)
    refine aw_ldc (npc := 12) kc_X7_78 dX7_held_10 rfl ?_
    refine aw_iret rfl dX7_held_12 ?_
    exact fin_c hq am_fr0 (show sp_held n = (-1000000001) from (by unfold sp_held; first | rfl | (simp only [wif_f hw1, wif_same, ite_self]; done) | (simp only [wif_f hw1, wif_same, ite_self]; rfl) | (simp [wif_f hw1, wif_same]; done)))
set_option maxHeartbeats 40000000 in
set_option maxRecDepth 100000 in
theorem p_X7_keep {X : List Int32} {d rc rs : Nat} {h : am_H} {Q : am_Q} (F : f0_X7 h) (hq : ∀ h9, am_fr 69 h9 h → Q (some (.int (sp_keep))) 92 h9) : AW X mX7_keep (d + 14) rc rs 0 [some (.ref 0)] [] 92 h Q := by
  obtain ⟨f0, f1, f2, f3, f4, f5, f6, f7, f8, f9, f10, f11, f12, -, -, -, -, -, -, -, -, -, -, -, -, f25, f26, f27, f28, f29, f30, f31, f32, f33, f34, f35, f36, -, -, -, -, -, -, -, -, -, -, -, -, -, -, -, -, -, -, -, -, -, -, -, -, -, -, -, -, -, -, -, -⟩ := F
  refine aw_aload_n (npc := 1) rfl dX7_keep_0 rfl ?_
  refine aw_get (npc := 4) dX7_keep_1 rfl kf_X7_19 f0 rfl ?_
  refine aw_aload_n (npc := 5) rfl dX7_keep_4 rfl ?_
  refine aw_get (npc := 8) dX7_keep_5 rfl kf_X7_10 f0 rfl ?_
  refine aw_callV (npc := 11) (N := mX0_becomes) (b := 25) (mc := 0) (ms := 0) (A := [.ref 1]) (S := []) (L0 := [some (.ref 25), some (.ref 1), none]) dX7_keep_8 rfl km_X0_becomes kk_X7_193 f25 ⟨by decide, rfl⟩ rfl ⟨rfl, by decide⟩ rfl (Nat.le_of_ble_eq_true rfl) (Nat.zero_add _) (Nat.zero_add _) rfl ?_
  refine p_bec_25 (hv := 0) (pt := 0) (hv2 := 0) (pt2 := 0) ⟨f1, f2, f3, f4, f5, f6, f7, f8, f9, f10, f11, f12⟩ ⟨f25, f26, f27, f28, f29, f30, f31, f32, f33, f34, f35, f36⟩ (fun h9 F2 fz1 => ?_)
  obtain ⟨a3_25, a3_26, a3_27, a3_28, a3_29, a3_30, a3_31, a3_32, a3_33, a3_34, a3_35, a3_36⟩ := F2
  refine aw_aload_n (npc := 12) rfl dX7_keep_11 rfl ?_
  refine aw_iconst (npc := 13) (v := 1) (by decide) dX7_keep_12 rfl ?_
  refine aw_put (npc := 16) dX7_keep_13 rfl kf_X7_22 ((fz1 0 (by decide)).trans f0) (Nat.le_of_ble_eq_true rfl) am_ok_z1 rfl ?_
  refine aw_aload_n (npc := 17) rfl dX7_keep_16 rfl ?_
  refine aw_get (npc := 20) dX7_keep_17 rfl kf_X7_19 am_eq rfl ?_
  refine aw_get (npc := 23) dX7_keep_20 rfl kf_X7_79 (am_ne (by decide) a3_25) rfl ?_
  refine aw_iret rfl dX7_keep_23 ?_
  exact fin_c hq (am_frU (by decide) (am_frT (am_fb.fr (by decide) fz1) am_fr0)) (show sp_keep = 0 from (by unfold sp_keep; first | rfl | (simp only [wif_same, ite_self]; done) | (simp only [wif_same, ite_self]; rfl) | (simp [wif_same]; done)))
