set_option maxHeartbeats 40000000 in
set_option maxRecDepth 100000 in
theorem p_X8_posts {X : List Int32} {d rc rs : Nat} {h : am_H} {Q : am_Q} {n : Int32} (F : f0_X8 h) (hq : ∀ n9 h9, Q (some (.int (sp_posts n))) n9 h9) : AW X mX8_posts (d + 14) rc rs 0 [some (.ref 69), some (.int n), none] [] 92 h Q := by
  obtain ⟨g69, g70, -, -, g73, g74, -, -, -, -, -, -, -, -, -, -, -, -, -, -, -, -, -⟩ := F
  have g70n : h 70 = some (.inl (0, nw 0 0 5 5 5 5)) := g70.trans (congrArg (fun l : List Int32 => (some (.inl (0, l)) : Option am_AC)) (by decide +kernel))
  refine aw_iload_n (npc := 1) rfl dX8_posts_0 rfl ?_
  refine aw_iconst (npc := 2) (v := 1) (by decide) dX8_posts_1 rfl ?_
  refine aw_bipush (npc := 4) (v := 100) (by decide) dX8_posts_2 rfl ?_
  refine aw_callS (npc := 7) (N := mX8_in) (mc := 0) (ms := 0) (A := [.int n, .int 1, .int 100]) (S := []) (L0 := [some (.int n), some (.int 1), some (.int 100)]) dX8_posts_4 rfl km_X8_in kk_X8_83 rfl ⟨rfl, by decide⟩ rfl (Nat.le_of_ble_eq_true rfl) (Nat.zero_add _) (Nat.zero_add _) rfl ?_
  refine c_X8_in (fun hw1 => ?_) (fun hw1 => ?_)
  · refine aw_re (S' := [.int 1]) rfl ?_
    refine aw_if_ne (npc := 10) (tgt := 13) dX8_posts_7 rfl (by decide) (fun _ => ?_) (fun hc => absurd hc (by decide))
    obtain ⟨N, hN, rfl⟩ := wi_nI (H := 100) rfl (by decide) hw1
    refine aw_aload_n (npc := 14) rfl dX8_posts_13 rfl ?_
    refine aw_iconst (npc := 15) (v := 4) (by decide) dX8_posts_14 rfl ?_
    refine aw_callV (npc := 18) (N := mX8_sumOf) (b := 69) (mc := 0) (ms := 0) (A := [.int 4]) (S := []) (L0 := [some (.ref 69), some (.int 4), none, none]) dX8_posts_15 rfl km_X8_sumOf kk_X8_160 g69 ⟨by decide, rfl⟩ rfl ⟨rfl, by decide⟩ rfl (Nat.le_of_ble_eq_true rfl) (Nat.zero_add _) (Nat.zero_add _) rfl ?_
    refine aw_iconst (npc := 1) (v := 0) (by decide) dX8_sumOf_0 rfl ?_
    refine aw_istore_n (npc := 2) (L' := [some (.ref 69), some (.int 4), some (.int 0), none]) dX8_sumOf_1 rfl (by decide) rfl rfl ?_
    refine aw_iconst (npc := 3) (v := 0) (by decide) dX8_sumOf_2 rfl ?_
    refine aw_istore_n (npc := 4) (L' := [some (.ref 69), some (.int 4), some (.int 0), some (.int 0)]) dX8_sumOf_3 rfl (by decide) rfl rfl ?_
    refine aw_iload_n (npc := 5) rfl dX8_sumOf_4 rfl ?_
    refine aw_aload_n (npc := 6) rfl dX8_sumOf_5 rfl ?_
    refine aw_get (npc := 9) dX8_sumOf_6 rfl kf_X8_9 g69 rfl ?_
    refine aw_iconst (npc := 10) (v := 1) (by decide) dX8_sumOf_9 rfl ?_
    refine aw_iald (npc := 11) (x := 0) (j := 1) dX8_sumOf_10 rfl g70n ⟨by decide, by decide⟩ rfl ?_
    refine aw_icmp_ge (npc := 14) (tgt := 29) dX8_sumOf_11 rfl (by decide) (fun _ => ?_) (fun hc => absurd (by decide) hc)
    refine aw_iload_n (npc := 30) rfl dX8_sumOf_29 rfl ?_
    refine aw_iret rfl dX8_sumOf_30 ?_
    refine aw_re (S' := [.int 0]) rfl ?_
    refine aw_istore_n (npc := 19) (L' := [some (.ref 69), some (.int (nI N)), some (.int 0)]) dX8_posts_18 rfl (by decide) rfl rfl ?_
    refine aw_aload_n (npc := 20) rfl dX8_posts_19 rfl ?_
    refine aw_sipush (npc := 23) (v := 9999) (by decide) dX8_posts_20 rfl ?_
    refine aw_aload_n (npc := 24) rfl dX8_posts_23 rfl ?_
    refine aw_get (npc := 27) dX8_posts_24 rfl kf_X8_9 g69 rfl ?_
    refine aw_iconst (npc := 28) (v := 2) (by decide) dX8_posts_27 rfl ?_
    refine aw_iald (npc := 29) (x := 0) (j := 2) dX8_posts_28 rfl g70n ⟨by decide, by decide⟩ rfl ?_
    refine aw_isubV (npc := 30) (v := 9999) dX8_posts_29 rfl (by decide) ?_
    refine aw_iconst (npc := 31) (v := 0) (by decide) dX8_posts_30 rfl ?_
    refine aw_iload_n (npc := 32) rfl dX8_posts_31 rfl ?_
    refine aw_callS (npc := 35) (N := mX8_within) (mc := 0) (ms := 0) (A := [.int 9999, .int 0, .int (nI N)]) (S := [.ref 69]) (L0 := [some (.int 9999), some (.int 0), some (.int (nI N))]) dX8_posts_32 rfl km_X8_within kk_X8_108 rfl ⟨rfl, by decide⟩ rfl (Nat.le_of_ble_eq_true rfl) (Nat.zero_add _) (Nat.zero_add _) rfl ?_
    refine aw_iload_n (npc := 1) rfl dX8_within_0 rfl ?_
    refine aw_iload_n (npc := 2) rfl dX8_within_1 rfl ?_
    refine aw_icmp_ge (npc := 5) (tgt := 9) dX8_within_2 rfl (by decide) (fun _ => ?_) (fun hc => absurd (by decide) hc)
    refine aw_iload_n (npc := 10) rfl dX8_within_9 rfl ?_
    refine aw_iload_n (npc := 11) rfl dX8_within_10 rfl ?_
    refine aw_icmp_le (npc := 14) (tgt := 18) dX8_within_11 rfl (by decide) (fun hc => absurd hc (nI_ge (a := N) (b := 9999) (by omega) (by omega))) (fun _ => ?_)
    refine aw_iload_n (npc := 15) rfl dX8_within_14 rfl ?_
    refine aw_goto (npc := 19) dX8_within_15 (by decide) ?_
    refine aw_iret rfl dX8_within_19 ?_
    refine aw_re (S' := [.int (nI N), .ref 69]) rfl ?_
    refine aw_callV (npc := 38) (N := mX8_goesOn) (b := 69) (mc := 0) (ms := 0) (A := [.int (nI N)]) (S := []) (L0 := [some (.ref 69), some (.int (nI N)), none]) dX8_posts_35 rfl km_X8_goesOn kk_X8_163 g69 ⟨by decide, rfl⟩ rfl ⟨rfl, by decide⟩ rfl (Nat.le_of_ble_eq_true rfl) (Nat.zero_add _) (Nat.zero_add _) rfl ?_
    refine p_go ⟨by decide, by decide⟩ (by omega) ⟨g69, g70n, g73, g74⟩ (fun ht4 pt5 h9 F3 => ?_)
    obtain ⟨a6_69, a6_70, a6_73, a6_74⟩ := F3
    refine aw_aload_n (npc := 39) rfl dX8_posts_38 rfl ?_
    refine aw_iconst (npc := 40) (v := 4) (by decide) dX8_posts_39 rfl ?_
    refine aw_callV (npc := 43) (N := mX8_sumOf) (b := 69) (mc := 0) (ms := 0) (A := [.int 4]) (S := []) (L0 := [some (.ref 69), some (.int 4), none, none]) dX8_posts_40 rfl km_X8_sumOf kk_X8_160 a6_69 ⟨by decide, rfl⟩ rfl ⟨rfl, by decide⟩ rfl (Nat.le_of_ble_eq_true rfl) (Nat.zero_add _) (Nat.zero_add _) rfl ?_
    refine aw_iconst (npc := 1) (v := 0) (by decide) dX8_sumOf_0 rfl ?_
    refine aw_istore_n (npc := 2) (L' := [some (.ref 69), some (.int 4), some (.int 0), none]) dX8_sumOf_1 rfl (by decide) rfl rfl ?_
    refine aw_iconst (npc := 3) (v := 0) (by decide) dX8_sumOf_2 rfl ?_
    refine aw_istore_n (npc := 4) (L' := [some (.ref 69), some (.int 4), some (.int 0), some (.int 0)]) dX8_sumOf_3 rfl (by decide) rfl rfl ?_
    refine aw_iload_n (npc := 5) rfl dX8_sumOf_4 rfl ?_
    refine aw_aload_n (npc := 6) rfl dX8_sumOf_5 rfl ?_
    refine aw_get (npc := 9) dX8_sumOf_6 rfl kf_X8_9 a6_69 rfl ?_
    refine aw_iconst (npc := 10) (v := 1) (by decide) dX8_sumOf_9 rfl ?_
    refine aw_iald (npc := 11) (x := 0) (j := 1) dX8_sumOf_10 rfl a6_70 ⟨by decide, by decide⟩ rfl ?_
    refine aw_icmp_ge (npc := 14) (tgt := 29) dX8_sumOf_11 rfl (by decide) (fun _ => ?_) (fun hc => absurd (by decide) hc)
    refine aw_iload_n (npc := 30) rfl dX8_sumOf_29 rfl ?_
    refine aw_iret rfl dX8_sumOf_30 ?_
    refine aw_re (S' := [.int 0]) rfl ?_
    refine aw_iload_n (npc := 44) rfl dX8_posts_43 rfl ?_
    refine aw_isubV (npc := 45) (v := 0) dX8_posts_44 rfl (by decide) ?_
    refine aw_iret rfl dX8_posts_45 ?_
    exact fin_m hq (show sp_posts (nI N) = 0 from (by unfold sp_posts; first | rfl | (simp only [wif_t hw1, wif_same, ite_self]; done) | (simp only [wif_t hw1, wif_same, ite_self]; rfl) | (simp [wif_t hw1, wif_same]; done)))
  · refine aw_re (S' := [.int 0]) rfl ?_
    refine aw_if_ne (npc := 10) (tgt := 13) dX8_posts_7 rfl (by decide) (fun hc => absurd (by decide) hc) (fun _ => ?_)
    refine aw_ldc (npc := 12) kc_X8_91 dX8_posts_10 rfl ?_
    refine aw_iret rfl dX8_posts_12 ?_
    exact fin_m hq (show sp_posts n = (-1000000001) from (by unfold sp_posts; first | rfl | (simp only [wif_f hw1, wif_same, ite_self]; done) | (simp only [wif_f hw1, wif_same, ite_self]; rfl) | (simp [wif_f hw1, wif_same]; done)))
set_option maxHeartbeats 40000000 in
set_option maxRecDepth 100000 in
theorem p_X8_behind {X : List Int32} {d rc rs : Nat} {h : am_H} {Q : am_Q} {n : Int32} {w : Int32} (F : f0_X8 h) (hq : ∀ n9 h9, Q (some (.int (sp_behind n w))) n9 h9) : AW X mX8_behind (d + 14) rc rs 0 [some (.ref 69), some (.int n), some (.int w), none] [] 92 h Q := by
  obtain ⟨g69, g70, -, -, g73, g74, -, -, -, -, -, -, -, -, -, -, -, -, -, -, -, -, -⟩ := F
  have g70n : h 70 = some (.inl (0, nw 0 0 5 5 5 5)) := g70.trans (congrArg (fun l : List Int32 => (some (.inl (0, l)) : Option am_AC)) (by decide +kernel))
  refine aw_iload_n (npc := 1) rfl dX8_behind_0 rfl ?_
  refine aw_iconst (npc := 2) (v := 0) (by decide) dX8_behind_1 rfl ?_
  refine aw_bipush (npc := 4) (v := 100) (by decide) dX8_behind_2 rfl ?_
  refine aw_callS (npc := 7) (N := mX8_in) (mc := 0) (ms := 0) (A := [.int n, .int 0, .int 100]) (S := []) (L0 := [some (.int n), some (.int 0), some (.int 100)]) dX8_behind_4 rfl km_X8_in kk_X8_83 rfl ⟨rfl, by decide⟩ rfl (Nat.le_of_ble_eq_true rfl) (Nat.zero_add _) (Nat.zero_add _) rfl ?_
  refine c_X8_in (fun hw1 => ?_) (fun hw1 => ?_)
  · refine aw_re (S' := [.int 1]) rfl ?_
    refine aw_if_eq (npc := 10) (tgt := 19) dX8_behind_7 rfl (by decide) (fun hc => absurd hc (by decide)) (fun _ => ?_)
    refine aw_iload_n (npc := 11) rfl dX8_behind_10 rfl ?_
    refine aw_iconst (npc := 12) (v := 0) (by decide) dX8_behind_11 rfl ?_
    refine aw_iconst (npc := 13) (v := 3) (by decide) dX8_behind_12 rfl ?_
    refine aw_callS (npc := 16) (N := mX8_in) (mc := 0) (ms := 0) (A := [.int w, .int 0, .int 3]) (S := []) (L0 := [some (.int w), some (.int 0), some (.int 3)]) dX8_behind_13 rfl km_X8_in kk_X8_83 rfl ⟨rfl, by decide⟩ rfl (Nat.le_of_ble_eq_true rfl) (Nat.zero_add _) (Nat.zero_add _) rfl ?_
    refine c_X8_in (fun hw2 => ?_) (fun hw2 => ?_)
    · rcases wi_c0_3 hw2 with rfl | rfl | rfl | rfl
      · refine aw_re (S' := [.int 1]) rfl ?_
        refine aw_if_ne (npc := 19) (tgt := 22) dX8_behind_16 rfl (by decide) (fun _ => ?_) (fun hc => absurd hc (by decide))
        obtain ⟨N, hN, rfl⟩ := wi_nI (H := 100) rfl (by decide) hw1
        refine aw_aload_n (npc := 23) rfl dX8_behind_22 rfl ?_
        refine aw_callV (npc := 26) (N := mX8_thinks) (b := 69) (mc := 0) (ms := 0) (A := []) (S := []) (L0 := [some (.ref 69), none]) dX8_behind_23 rfl km_X8_thinks kk_X8_169 g69 ⟨by decide, rfl⟩ rfl ⟨rfl, by decide⟩ rfl (Nat.le_of_ble_eq_true rfl) (Nat.zero_add _) (Nat.zero_add _) rfl ?_
        refine p_thinks ⟨g69, g70n, g73, g74⟩ (fun h9 F3 => ?_)
        obtain ⟨a4_69, a4_70, a4_73, a4_74⟩ := F3
        refine aw_aload_n (npc := 27) rfl dX8_behind_26 rfl ?_
        refine aw_iload_n (npc := 28) rfl dX8_behind_27 rfl ?_
        refine aw_callV (npc := 31) (N := mX8_goesOn) (b := 69) (mc := 0) (ms := 0) (A := [.int (nI N)]) (S := []) (L0 := [some (.ref 69), some (.int (nI N)), none]) dX8_behind_28 rfl km_X8_goesOn kk_X8_163 a4_69 ⟨by decide, rfl⟩ rfl ⟨rfl, by decide⟩ rfl (Nat.le_of_ble_eq_true rfl) (Nat.zero_add _) (Nat.zero_add _) rfl ?_
        refine p_go ⟨by decide, by decide⟩ (by omega) ⟨a4_69, a4_70, a4_73, a4_74⟩ (fun ht6 pt7 h9 F5 => ?_)
        obtain ⟨a8_69, a8_70, a8_73, a8_74⟩ := F5
        refine aw_iload_n (npc := 32) rfl dX8_behind_31 rfl ?_
        refine aw_if_ne (npc := 35) (tgt := 44) dX8_behind_32 rfl (by decide) (fun hc => absurd (by decide) hc) (fun _ => ?_)
        refine aw_aload_n (npc := 36) rfl dX8_behind_35 rfl ?_
        refine aw_get (npc := 39) dX8_behind_36 rfl kf_X8_9 a8_69 rfl ?_
        refine aw_iconst (npc := 40) (v := 3) (by decide) dX8_behind_39 rfl ?_
        refine aw_iald (npc := 41) (x := 0) (j := 3) dX8_behind_40 rfl a8_70 ⟨by decide, by decide⟩ rfl ?_
        refine aw_goto (npc := 83) dX8_behind_41 (by decide) ?_
        refine aw_istore_n (npc := 84) (L' := [some (.ref 69), some (.int (nI N)), some (.int 0), some (.int 0)]) dX8_behind_83 rfl (by decide) rfl rfl ?_
        refine aw_aload_n (npc := 85) rfl dX8_behind_84 rfl ?_
        refine aw_callV (npc := 88) (N := mX8_putsBack) (b := 69) (mc := 0) (ms := 0) (A := []) (S := []) (L0 := [some (.ref 69), none]) dX8_behind_85 rfl km_X8_putsBack kk_X8_175 a8_69 ⟨by decide, rfl⟩ rfl ⟨rfl, by decide⟩ rfl (Nat.le_of_ble_eq_true rfl) (Nat.zero_add _) (Nat.zero_add _) rfl ?_
        refine p_puts ⟨a8_69, a8_70, a8_73, a8_74⟩ (fun h9 F9 => ?_)
        obtain ⟨a10_69, a10_70, a10_73, a10_74⟩ := F9
        refine aw_iload_n (npc := 89) rfl dX8_behind_88 rfl ?_
        refine aw_iret rfl dX8_behind_89 ?_
        exact fin_m hq (show sp_behind (nI N) 0 = 0 from (by unfold sp_behind; first | rfl | (simp only [wif_t hw1, wif_t hw2, wif_same, ite_self]; done) | (simp only [wif_t hw1, wif_t hw2, wif_same, ite_self]; rfl) | (simp [wif_t hw1, wif_t hw2, wif_same]; done)))
      · refine aw_re (S' := [.int 1]) rfl ?_
        refine aw_if_ne (npc := 19) (tgt := 22) dX8_behind_16 rfl (by decide) (fun _ => ?_) (fun hc => absurd hc (by decide))
        obtain ⟨N, hN, rfl⟩ := wi_nI (H := 100) rfl (by decide) hw1
        refine aw_aload_n (npc := 23) rfl dX8_behind_22 rfl ?_
        refine aw_callV (npc := 26) (N := mX8_thinks) (b := 69) (mc := 0) (ms := 0) (A := []) (S := []) (L0 := [some (.ref 69), none]) dX8_behind_23 rfl km_X8_thinks kk_X8_169 g69 ⟨by decide, rfl⟩ rfl ⟨rfl, by decide⟩ rfl (Nat.le_of_ble_eq_true rfl) (Nat.zero_add _) (Nat.zero_add _) rfl ?_
        refine p_thinks ⟨g69, g70n, g73, g74⟩ (fun h9 F11 => ?_)
        obtain ⟨a12_69, a12_70, a12_73, a12_74⟩ := F11
        refine aw_aload_n (npc := 27) rfl dX8_behind_26 rfl ?_
        refine aw_iload_n (npc := 28) rfl dX8_behind_27 rfl ?_
        refine aw_callV (npc := 31) (N := mX8_goesOn) (b := 69) (mc := 0) (ms := 0) (A := [.int (nI N)]) (S := []) (L0 := [some (.ref 69), some (.int (nI N)), none]) dX8_behind_28 rfl km_X8_goesOn kk_X8_163 a12_69 ⟨by decide, rfl⟩ rfl ⟨rfl, by decide⟩ rfl (Nat.le_of_ble_eq_true rfl) (Nat.zero_add _) (Nat.zero_add _) rfl ?_
        refine p_go ⟨by decide, by decide⟩ (by omega) ⟨a12_69, a12_70, a12_73, a12_74⟩ (fun ht14 pt15 h9 F13 => ?_)
        obtain ⟨a16_69, a16_70, a16_73, a16_74⟩ := F13
        refine aw_iload_n (npc := 32) rfl dX8_behind_31 rfl ?_
        refine aw_if_ne (npc := 35) (tgt := 44) dX8_behind_32 rfl (by decide) (fun _ => ?_) (fun hc => absurd hc (by decide))
        refine aw_iload_n (npc := 45) rfl dX8_behind_44 rfl ?_
        refine aw_iconst (npc := 46) (v := 1) (by decide) dX8_behind_45 rfl ?_
        refine aw_icmp_ne (npc := 49) (tgt := 56) dX8_behind_46 rfl (by decide) (fun hc => absurd (by decide) hc) (fun _ => ?_)
        refine aw_aload_n (npc := 50) rfl dX8_behind_49 rfl ?_
        refine aw_callV (npc := 53) (N := mX8_stands) (b := 69) (mc := 0) (ms := 0) (A := []) (S := []) (L0 := [some (.ref 69), none, none]) dX8_behind_50 rfl km_X8_stands kk_X8_166 a16_69 ⟨by decide, rfl⟩ rfl ⟨rfl, by decide⟩ rfl (Nat.le_of_ble_eq_true rfl) (Nat.zero_add _) (Nat.zero_add _) rfl ?_
        refine aw_iconst (npc := 1) (v := 0) (by decide) dX8_stands_0 rfl ?_
        refine aw_istore_n (npc := 2) (L' := [some (.ref 69), some (.int 0), none]) dX8_stands_1 rfl (by decide) rfl rfl ?_
        refine aw_iconst (npc := 3) (v := 0) (by decide) dX8_stands_2 rfl ?_
        refine aw_istore_n (npc := 4) (L' := [some (.ref 69), some (.int 0), some (.int 0)]) dX8_stands_3 rfl (by decide) rfl rfl ?_
        refine aw_iload_n (npc := 5) rfl dX8_stands_4 rfl ?_
        refine aw_iconst (npc := 6) (v := 4) (by decide) dX8_stands_5 rfl ?_
        refine aw_icmp_ge (npc := 9) (tgt := 30) dX8_stands_6 rfl (by decide) (fun hc => absurd hc (by decide)) (fun _ => ?_)
        refine aw_bipush (npc := 11) (v := 10) (by decide) dX8_stands_9 rfl ?_
        refine aw_iload_n (npc := 12) rfl dX8_stands_11 rfl ?_
        refine aw_imulV (npc := 13) (v := 0) dX8_stands_12 rfl (by decide) ?_
        refine aw_aload_n (npc := 14) rfl dX8_stands_13 rfl ?_
        refine aw_get (npc := 17) dX8_stands_14 rfl kf_X8_9 a16_69 rfl ?_
        refine aw_bipush (npc := 19) (v := 8) (by decide) dX8_stands_17 rfl ?_
        refine aw_iload_n (npc := 20) rfl dX8_stands_19 rfl ?_
        refine aw_iaddV (npc := 21) (v := 8) dX8_stands_20 rfl (by decide) ?_
        refine aw_iald (npc := 22) (x := 5) (j := 8) dX8_stands_21 rfl a16_70 ⟨by decide, by decide⟩ rfl ?_
        refine aw_iaddV (npc := 23) (v := 5) dX8_stands_22 rfl (by decide) ?_
        refine aw_istore_n (npc := 24) (L' := [some (.ref 69), some (.int 5), some (.int 0)]) dX8_stands_23 rfl (by decide) rfl rfl ?_
        refine aw_iinc (npc := 27) (v := 1) (L' := [some (.ref 69), some (.int 5), some (.int 1)]) dX8_stands_24 rfl rfl (by decide) (by decide) rfl rfl ?_
        refine aw_goto (npc := 4) dX8_stands_27 (by decide) ?_
        refine aw_iload_n (npc := 5) rfl dX8_stands_4 rfl ?_
        refine aw_iconst (npc := 6) (v := 4) (by decide) dX8_stands_5 rfl ?_
        refine aw_icmp_ge (npc := 9) (tgt := 30) dX8_stands_6 rfl (by decide) (fun hc => absurd hc (by decide)) (fun _ => ?_)
        refine aw_bipush (npc := 11) (v := 10) (by decide) dX8_stands_9 rfl ?_
        refine aw_iload_n (npc := 12) rfl dX8_stands_11 rfl ?_
        refine aw_imulV (npc := 13) (v := 50) dX8_stands_12 rfl (by decide) ?_
        refine aw_aload_n (npc := 14) rfl dX8_stands_13 rfl ?_
        refine aw_get (npc := 17) dX8_stands_14 rfl kf_X8_9 a16_69 rfl ?_
        refine aw_bipush (npc := 19) (v := 8) (by decide) dX8_stands_17 rfl ?_
        refine aw_iload_n (npc := 20) rfl dX8_stands_19 rfl ?_
        refine aw_iaddV (npc := 21) (v := 9) dX8_stands_20 rfl (by decide) ?_
        refine aw_iald (npc := 22) (x := 5) (j := 9) dX8_stands_21 rfl a16_70 ⟨by decide, by decide⟩ rfl ?_
        refine aw_iaddV (npc := 23) (v := 55) dX8_stands_22 rfl (by decide) ?_
        refine aw_istore_n (npc := 24) (L' := [some (.ref 69), some (.int 55), some (.int 1)]) dX8_stands_23 rfl (by decide) rfl rfl ?_
        refine aw_iinc (npc := 27) (v := 2) (L' := [some (.ref 69), some (.int 55), some (.int 2)]) dX8_stands_24 rfl rfl (by decide) (by decide) rfl rfl ?_
        refine aw_goto (npc := 4) dX8_stands_27 (by decide) ?_
        refine aw_iload_n (npc := 5) rfl dX8_stands_4 rfl ?_
        refine aw_iconst (npc := 6) (v := 4) (by decide) dX8_stands_5 rfl ?_
        refine aw_icmp_ge (npc := 9) (tgt := 30) dX8_stands_6 rfl (by decide) (fun hc => absurd hc (by decide)) (fun _ => ?_)
        refine aw_bipush (npc := 11) (v := 10) (by decide) dX8_stands_9 rfl ?_
        refine aw_iload_n (npc := 12) rfl dX8_stands_11 rfl ?_
        refine aw_imulV (npc := 13) (v := 550) dX8_stands_12 rfl (by decide) ?_
        refine aw_aload_n (npc := 14) rfl dX8_stands_13 rfl ?_
        refine aw_get (npc := 17) dX8_stands_14 rfl kf_X8_9 a16_69 rfl ?_
        refine aw_bipush (npc := 19) (v := 8) (by decide) dX8_stands_17 rfl ?_
        refine aw_iload_n (npc := 20) rfl dX8_stands_19 rfl ?_
        refine aw_iaddV (npc := 21) (v := 10) dX8_stands_20 rfl (by decide) ?_
        refine aw_iald (npc := 22) (x := 5) (j := 10) dX8_stands_21 rfl a16_70 ⟨by decide, by decide⟩ rfl ?_
        refine aw_iaddV (npc := 23) (v := 555) dX8_stands_22 rfl (by decide) ?_
        refine aw_istore_n (npc := 24) (L' := [some (.ref 69), some (.int 555), some (.int 2)]) dX8_stands_23 rfl (by decide) rfl rfl ?_
        refine aw_iinc (npc := 27) (v := 3) (L' := [some (.ref 69), some (.int 555), some (.int 3)]) dX8_stands_24 rfl rfl (by decide) (by decide) rfl rfl ?_
        refine aw_goto (npc := 4) dX8_stands_27 (by decide) ?_
        refine aw_iload_n (npc := 5) rfl dX8_stands_4 rfl ?_
        refine aw_iconst (npc := 6) (v := 4) (by decide) dX8_stands_5 rfl ?_
        refine aw_icmp_ge (npc := 9) (tgt := 30) dX8_stands_6 rfl (by decide) (fun hc => absurd hc (by decide)) (fun _ => ?_)
        refine aw_bipush (npc := 11) (v := 10) (by decide) dX8_stands_9 rfl ?_
        refine aw_iload_n (npc := 12) rfl dX8_stands_11 rfl ?_
        refine aw_imulV (npc := 13) (v := 5550) dX8_stands_12 rfl (by decide) ?_
        refine aw_aload_n (npc := 14) rfl dX8_stands_13 rfl ?_
        refine aw_get (npc := 17) dX8_stands_14 rfl kf_X8_9 a16_69 rfl ?_
        refine aw_bipush (npc := 19) (v := 8) (by decide) dX8_stands_17 rfl ?_
        refine aw_iload_n (npc := 20) rfl dX8_stands_19 rfl ?_
        refine aw_iaddV (npc := 21) (v := 11) dX8_stands_20 rfl (by decide) ?_
        refine aw_iald (npc := 22) (x := 5) (j := 11) dX8_stands_21 rfl a16_70 ⟨by decide, by decide⟩ rfl ?_
        refine aw_iaddV (npc := 23) (v := 5555) dX8_stands_22 rfl (by decide) ?_
        refine aw_istore_n (npc := 24) (L' := [some (.ref 69), some (.int 5555), some (.int 3)]) dX8_stands_23 rfl (by decide) rfl rfl ?_
        refine aw_iinc (npc := 27) (v := 4) (L' := [some (.ref 69), some (.int 5555), some (.int 4)]) dX8_stands_24 rfl rfl (by decide) (by decide) rfl rfl ?_
        refine aw_goto (npc := 4) dX8_stands_27 (by decide) ?_
        refine aw_iload_n (npc := 5) rfl dX8_stands_4 rfl ?_
        refine aw_iconst (npc := 6) (v := 4) (by decide) dX8_stands_5 rfl ?_
        refine aw_icmp_ge (npc := 9) (tgt := 30) dX8_stands_6 rfl (by decide) (fun _ => ?_) (fun hc => absurd (by decide) hc)
        refine aw_iload_n (npc := 31) rfl dX8_stands_30 rfl ?_
        refine aw_iret rfl dX8_stands_31 ?_
        refine aw_re (S' := [.int 5555]) rfl ?_
        refine aw_goto (npc := 83) dX8_behind_53 (by decide) ?_
        refine aw_istore_n (npc := 84) (L' := [some (.ref 69), some (.int (nI N)), some (.int 1), some (.int 5555)]) dX8_behind_83 rfl (by decide) rfl rfl ?_
        refine aw_aload_n (npc := 85) rfl dX8_behind_84 rfl ?_
        refine aw_callV (npc := 88) (N := mX8_putsBack) (b := 69) (mc := 0) (ms := 0) (A := []) (S := []) (L0 := [some (.ref 69), none]) dX8_behind_85 rfl km_X8_putsBack kk_X8_175 a16_69 ⟨by decide, rfl⟩ rfl ⟨rfl, by decide⟩ rfl (Nat.le_of_ble_eq_true rfl) (Nat.zero_add _) (Nat.zero_add _) rfl ?_
        refine p_puts ⟨a16_69, a16_70, a16_73, a16_74⟩ (fun h9 F17 => ?_)
        obtain ⟨a18_69, a18_70, a18_73, a18_74⟩ := F17
        refine aw_iload_n (npc := 89) rfl dX8_behind_88 rfl ?_
        refine aw_iret rfl dX8_behind_89 ?_
        exact fin_m hq (show sp_behind (nI N) 1 = 5555 from (by unfold sp_behind; first | rfl | (simp only [wif_t hw1, wif_t hw2, wif_same, ite_self]; done) | (simp only [wif_t hw1, wif_t hw2, wif_same, ite_self]; rfl) | (simp [wif_t hw1, wif_t hw2, wif_same]; done)))
      · refine aw_re (S' := [.int 1]) rfl ?_
        refine aw_if_ne (npc := 19) (tgt := 22) dX8_behind_16 rfl (by decide) (fun _ => ?_) (fun hc => absurd hc (by decide))
        obtain ⟨N, hN, rfl⟩ := wi_nI (H := 100) rfl (by decide) hw1
        refine aw_aload_n (npc := 23) rfl dX8_behind_22 rfl ?_
        refine aw_callV (npc := 26) (N := mX8_thinks) (b := 69) (mc := 0) (ms := 0) (A := []) (S := []) (L0 := [some (.ref 69), none]) dX8_behind_23 rfl km_X8_thinks kk_X8_169 g69 ⟨by decide, rfl⟩ rfl ⟨rfl, by decide⟩ rfl (Nat.le_of_ble_eq_true rfl) (Nat.zero_add _) (Nat.zero_add _) rfl ?_
        refine p_thinks ⟨g69, g70n, g73, g74⟩ (fun h9 F19 => ?_)
        obtain ⟨a20_69, a20_70, a20_73, a20_74⟩ := F19
        refine aw_aload_n (npc := 27) rfl dX8_behind_26 rfl ?_
        refine aw_iload_n (npc := 28) rfl dX8_behind_27 rfl ?_
        refine aw_callV (npc := 31) (N := mX8_goesOn) (b := 69) (mc := 0) (ms := 0) (A := [.int (nI N)]) (S := []) (L0 := [some (.ref 69), some (.int (nI N)), none]) dX8_behind_28 rfl km_X8_goesOn kk_X8_163 a20_69 ⟨by decide, rfl⟩ rfl ⟨rfl, by decide⟩ rfl (Nat.le_of_ble_eq_true rfl) (Nat.zero_add _) (Nat.zero_add _) rfl ?_
        refine p_go ⟨by decide, by decide⟩ (by omega) ⟨a20_69, a20_70, a20_73, a20_74⟩ (fun ht22 pt23 h9 F21 => ?_)
        obtain ⟨a24_69, a24_70, a24_73, a24_74⟩ := F21
        refine aw_iload_n (npc := 32) rfl dX8_behind_31 rfl ?_
        refine aw_if_ne (npc := 35) (tgt := 44) dX8_behind_32 rfl (by decide) (fun _ => ?_) (fun hc => absurd hc (by decide))
        refine aw_iload_n (npc := 45) rfl dX8_behind_44 rfl ?_
        refine aw_iconst (npc := 46) (v := 1) (by decide) dX8_behind_45 rfl ?_
        refine aw_icmp_ne (npc := 49) (tgt := 56) dX8_behind_46 rfl (by decide) (fun _ => ?_) (fun hc => absurd hc (by decide))
        refine aw_iload_n (npc := 57) rfl dX8_behind_56 rfl ?_
        refine aw_iconst (npc := 58) (v := 2) (by decide) dX8_behind_57 rfl ?_
        refine aw_icmp_ne (npc := 61) (tgt := 76) dX8_behind_58 rfl (by decide) (fun hc => absurd (by decide) hc) (fun _ => ?_)
        refine aw_aload_n (npc := 62) rfl dX8_behind_61 rfl ?_
        refine aw_callV (npc := 65) (N := mX8_isPeace) (b := 69) (mc := 0) (ms := 0) (A := []) (S := []) (L0 := [some (.ref 69)]) dX8_behind_62 rfl km_X8_isPeace kk_X8_149 a24_69 ⟨by decide, rfl⟩ rfl ⟨rfl, by decide⟩ rfl (Nat.le_of_ble_eq_true rfl) (Nat.zero_add _) (Nat.zero_add _) rfl ?_
        refine p_mp5 ⟨a24_69, a24_70, a24_73, a24_74⟩ ?_
        refine aw_re (S' := [.int 0]) rfl ?_
        refine aw_if_eq (npc := 68) (tgt := 72) dX8_behind_65 rfl (by decide) (fun _ => ?_) (fun hc => absurd (by decide) hc)
        refine aw_iconst (npc := 73) (v := 0) (by decide) dX8_behind_72 rfl ?_
        refine aw_goto (npc := 83) dX8_behind_73 (by decide) ?_
        refine aw_istore_n (npc := 84) (L' := [some (.ref 69), some (.int (nI N)), some (.int 2), some (.int 0)]) dX8_behind_83 rfl (by decide) rfl rfl ?_
        refine aw_aload_n (npc := 85) rfl dX8_behind_84 rfl ?_
        refine aw_callV (npc := 88) (N := mX8_putsBack) (b := 69) (mc := 0) (ms := 0) (A := []) (S := []) (L0 := [some (.ref 69), none]) dX8_behind_85 rfl km_X8_putsBack kk_X8_175 a24_69 ⟨by decide, rfl⟩ rfl ⟨rfl, by decide⟩ rfl (Nat.le_of_ble_eq_true rfl) (Nat.zero_add _) (Nat.zero_add _) rfl ?_
        refine p_puts ⟨a24_69, a24_70, a24_73, a24_74⟩ (fun h9 F25 => ?_)
        obtain ⟨a26_69, a26_70, a26_73, a26_74⟩ := F25
        refine aw_iload_n (npc := 89) rfl dX8_behind_88 rfl ?_
        refine aw_iret rfl dX8_behind_89 ?_
        exact fin_m hq (show sp_behind (nI N) 2 = 0 from (by unfold sp_behind; first | rfl | (simp only [wif_t hw1, wif_t hw2, wif_same, ite_self]; done) | (simp only [wif_t hw1, wif_t hw2, wif_same, ite_self]; rfl) | (simp [wif_t hw1, wif_t hw2, wif_same]; done)))
      · refine aw_re (S' := [.int 1]) rfl ?_
        refine aw_if_ne (npc := 19) (tgt := 22) dX8_behind_16 rfl (by decide) (fun _ => ?_) (fun hc => absurd hc (by decide))
        obtain ⟨N, hN, rfl⟩ := wi_nI (H := 100) rfl (by decide) hw1
        refine aw_aload_n (npc := 23) rfl dX8_behind_22 rfl ?_
        refine aw_callV (npc := 26) (N := mX8_thinks) (b := 69) (mc := 0) (ms := 0) (A := []) (S := []) (L0 := [some (.ref 69), none]) dX8_behind_23 rfl km_X8_thinks kk_X8_169 g69 ⟨by decide, rfl⟩ rfl ⟨rfl, by decide⟩ rfl (Nat.le_of_ble_eq_true rfl) (Nat.zero_add _) (Nat.zero_add _) rfl ?_
        refine p_thinks ⟨g69, g70n, g73, g74⟩ (fun h9 F27 => ?_)
        obtain ⟨a28_69, a28_70, a28_73, a28_74⟩ := F27
        refine aw_aload_n (npc := 27) rfl dX8_behind_26 rfl ?_
        refine aw_iload_n (npc := 28) rfl dX8_behind_27 rfl ?_
        refine aw_callV (npc := 31) (N := mX8_goesOn) (b := 69) (mc := 0) (ms := 0) (A := [.int (nI N)]) (S := []) (L0 := [some (.ref 69), some (.int (nI N)), none]) dX8_behind_28 rfl km_X8_goesOn kk_X8_163 a28_69 ⟨by decide, rfl⟩ rfl ⟨rfl, by decide⟩ rfl (Nat.le_of_ble_eq_true rfl) (Nat.zero_add _) (Nat.zero_add _) rfl ?_
        refine p_go ⟨by decide, by decide⟩ (by omega) ⟨a28_69, a28_70, a28_73, a28_74⟩ (fun ht30 pt31 h9 F29 => ?_)
        obtain ⟨a32_69, a32_70, a32_73, a32_74⟩ := F29
        refine aw_iload_n (npc := 32) rfl dX8_behind_31 rfl ?_
        refine aw_if_ne (npc := 35) (tgt := 44) dX8_behind_32 rfl (by decide) (fun _ => ?_) (fun hc => absurd hc (by decide))
        refine aw_iload_n (npc := 45) rfl dX8_behind_44 rfl ?_
        refine aw_iconst (npc := 46) (v := 1) (by decide) dX8_behind_45 rfl ?_
        refine aw_icmp_ne (npc := 49) (tgt := 56) dX8_behind_46 rfl (by decide) (fun _ => ?_) (fun hc => absurd hc (by decide))
        refine aw_iload_n (npc := 57) rfl dX8_behind_56 rfl ?_
        refine aw_iconst (npc := 58) (v := 2) (by decide) dX8_behind_57 rfl ?_
        refine aw_icmp_ne (npc := 61) (tgt := 76) dX8_behind_58 rfl (by decide) (fun _ => ?_) (fun hc => absurd hc (by decide))
        refine aw_aload_n (npc := 77) rfl dX8_behind_76 rfl ?_
        refine aw_get (npc := 80) dX8_behind_77 rfl kf_X8_9 a32_69 rfl ?_
        refine aw_bipush (npc := 82) (v := 6) (by decide) dX8_behind_80 rfl ?_
        refine aw_iald (npc := 83) (x := 0) (j := 6) dX8_behind_82 rfl a32_70 ⟨by decide, by decide⟩ rfl ?_
        refine aw_istore_n (npc := 84) (L' := [some (.ref 69), some (.int (nI N)), some (.int 3), some (.int 0)]) dX8_behind_83 rfl (by decide) rfl rfl ?_
        refine aw_aload_n (npc := 85) rfl dX8_behind_84 rfl ?_
        refine aw_callV (npc := 88) (N := mX8_putsBack) (b := 69) (mc := 0) (ms := 0) (A := []) (S := []) (L0 := [some (.ref 69), none]) dX8_behind_85 rfl km_X8_putsBack kk_X8_175 a32_69 ⟨by decide, rfl⟩ rfl ⟨rfl, by decide⟩ rfl (Nat.le_of_ble_eq_true rfl) (Nat.zero_add _) (Nat.zero_add _) rfl ?_
        refine p_puts ⟨a32_69, a32_70, a32_73, a32_74⟩ (fun h9 F33 => ?_)
        obtain ⟨a34_69, a34_70, a34_73, a34_74⟩ := F33
        refine aw_iload_n (npc := 89) rfl dX8_behind_88 rfl ?_
        refine aw_iret rfl dX8_behind_89 ?_
        exact fin_m hq (show sp_behind (nI N) 3 = 0 from (by unfold sp_behind; first | rfl | (simp only [wif_t hw1, wif_t hw2, wif_same, ite_self]; done) | (simp only [wif_t hw1, wif_t hw2, wif_same, ite_self]; rfl) | (simp [wif_t hw1, wif_t hw2, wif_same]; done)))
    · refine aw_re (S' := [.int 0]) rfl ?_
      refine aw_if_ne (npc := 19) (tgt := 22) dX8_behind_16 rfl (by decide) (fun hc => absurd (by decide) hc) (fun _ => ?_)
      refine aw_ldc (npc := 21) kc_X8_91 dX8_behind_19 rfl ?_
      refine aw_iret rfl dX8_behind_21 ?_
      exact fin_m hq (show sp_behind n w = (-1000000001) from (by unfold sp_behind; first | rfl | (simp only [wif_t hw1, wif_f hw2, if_neg (ne_nwi hw2 (k := 0) ⟨by decide, by decide⟩), if_neg (ne_nwi hw2 (k := 1) ⟨by decide, by decide⟩), if_neg (ne_nwi hw2 (k := 2) ⟨by decide, by decide⟩), if_neg (ne_nwi hw2 (k := 3) ⟨by decide, by decide⟩), wif_same, ite_self]; done) | (simp only [wif_t hw1, wif_f hw2, if_neg (ne_nwi hw2 (k := 0) ⟨by decide, by decide⟩), if_neg (ne_nwi hw2 (k := 1) ⟨by decide, by decide⟩), if_neg (ne_nwi hw2 (k := 2) ⟨by decide, by decide⟩), if_neg (ne_nwi hw2 (k := 3) ⟨by decide, by decide⟩), wif_same, ite_self]; rfl) | (simp [wif_t hw1, wif_f hw2, if_neg (ne_nwi hw2 (k := 0) ⟨by decide, by decide⟩), if_neg (ne_nwi hw2 (k := 1) ⟨by decide, by decide⟩), if_neg (ne_nwi hw2 (k := 2) ⟨by decide, by decide⟩), if_neg (ne_nwi hw2 (k := 3) ⟨by decide, by decide⟩), wif_same]; done)))
  · refine aw_re (S' := [.int 0]) rfl ?_
    refine aw_if_eq (npc := 10) (tgt := 19) dX8_behind_7 rfl (by decide) (fun _ => ?_) (fun hc => absurd (by decide) hc)
    refine aw_ldc (npc := 21) kc_X8_91 dX8_behind_19 rfl ?_
    refine aw_iret rfl dX8_behind_21 ?_
    exact fin_m hq (show sp_behind n w = (-1000000001) from (by unfold sp_behind; first | rfl | (simp only [wif_f hw1, wif_same, ite_self]; done) | (simp only [wif_f hw1, wif_same, ite_self]; rfl) | (simp [wif_f hw1, wif_same]; done)))
set_option maxHeartbeats 40000000 in
set_option maxRecDepth 100000 in
theorem p_X8_held {X : List Int32} {d rc rs : Nat} {h : am_H} {Q : am_Q} {n : Int32} (F : f0_X8 h) (hq : ∀ n9 h9, Q (some (.int (sp_held n))) n9 h9) : AW X mX8_held (d + 14) rc rs 0 [some (.ref 69), some (.int n), none, none, none] [] 92 h Q := by
  obtain ⟨g69, g70, -, -, g73, g74, -, -, -, -, -, -, -, -, -, -, -, -, -, -, -, -, -⟩ := F
  have g70n : h 70 = some (.inl (0, nw 0 0 5 5 5 5)) := g70.trans (congrArg (fun l : List Int32 => (some (.inl (0, l)) : Option am_AC)) (by decide +kernel))
  refine aw_iload_n (npc := 1) rfl dX8_held_0 rfl ?_
  refine aw_iconst (npc := 2) (v := 1) (by decide) dX8_held_1 rfl ?_
  refine aw_bipush (npc := 4) (v := 60) (by decide) dX8_held_2 rfl ?_
  refine aw_callS (npc := 7) (N := mX8_in) (mc := 0) (ms := 0) (A := [.int n, .int 1, .int 60]) (S := []) (L0 := [some (.int n), some (.int 1), some (.int 60)]) dX8_held_4 rfl km_X8_in kk_X8_83 rfl ⟨rfl, by decide⟩ rfl (Nat.le_of_ble_eq_true rfl) (Nat.zero_add _) (Nat.zero_add _) rfl ?_
  refine c_X8_in (fun hw1 => ?_) (fun hw1 => ?_)
  · refine aw_re (S' := [.int 1]) rfl ?_
    refine aw_if_ne (npc := 10) (tgt := 13) dX8_held_7 rfl (by decide) (fun _ => ?_) (fun hc => absurd hc (by decide))
    obtain ⟨N, hN, rfl⟩ := wi_nI (H := 60) rfl (by decide) hw1
    refine aw_aload_n (npc := 14) rfl dX8_held_13 rfl ?_
    refine aw_callV (npc := 17) (N := mX8_thinks) (b := 69) (mc := 0) (ms := 0) (A := []) (S := []) (L0 := [some (.ref 69), none]) dX8_held_14 rfl km_X8_thinks kk_X8_169 g69 ⟨by decide, rfl⟩ rfl ⟨rfl, by decide⟩ rfl (Nat.le_of_ble_eq_true rfl) (Nat.zero_add _) (Nat.zero_add _) rfl ?_
    refine p_thinks ⟨g69, g70n, g73, g74⟩ (fun h9 F2 => ?_)
    obtain ⟨a3_69, a3_70, a3_73, a3_74⟩ := F2
    refine aw_iconst (npc := 18) (v := 0) (by decide) dX8_held_17 rfl ?_
    refine aw_istore_n (npc := 19) (L' := [some (.ref 69), some (.int (nI N)), some (.int 0), none, none]) dX8_held_18 rfl (by decide) rfl rfl ?_
    refine aw_aload_n (npc := 20) rfl dX8_held_19 rfl ?_
    refine aw_iload_n (npc := 21) rfl dX8_held_20 rfl ?_
    refine aw_callV (npc := 24) (N := mX8_endsWell) (b := 69) (mc := 0) (ms := 0) (A := [.int (nI N)]) (S := []) (L0 := [some (.ref 69), some (.int (nI N)), none]) dX8_held_21 rfl km_X8_endsWell kk_X8_181 a3_69 ⟨by decide, rfl⟩ rfl ⟨rfl, by decide⟩ rfl (Nat.le_of_ble_eq_true rfl) (Nat.zero_add _) (Nat.zero_add _) rfl ?_
    refine aw_aload_n (npc := 1) rfl dX8_endsWell_0 rfl ?_
    refine aw_iload_n (npc := 2) rfl dX8_endsWell_1 rfl ?_
    refine aw_callV (npc := 5) (N := mX8_goesOn) (b := 69) (mc := 0) (ms := 0) (A := [.int (nI N)]) (S := []) (L0 := [some (.ref 69), some (.int (nI N)), none]) dX8_endsWell_2 rfl km_X8_goesOn kk_X8_163 a3_69 ⟨by decide, rfl⟩ rfl ⟨rfl, by decide⟩ rfl (Nat.le_of_ble_eq_true rfl) (Nat.zero_add _) (Nat.zero_add _) rfl ?_
    refine p_go ⟨by decide, by decide⟩ (by omega) ⟨a3_69, a3_70, a3_73, a3_74⟩ (fun ht5 pt6 h9 F4 => ?_)
    obtain ⟨a7_69, a7_70, a7_73, a7_74⟩ := F4
    refine aw_aload_n (npc := 6) rfl dX8_endsWell_5 rfl ?_
    refine aw_callV (npc := 9) (N := mX8_isPeace) (b := 69) (mc := 0) (ms := 0) (A := []) (S := []) (L0 := [some (.ref 69)]) dX8_endsWell_6 rfl km_X8_isPeace kk_X8_149 a7_69 ⟨by decide, rfl⟩ rfl ⟨rfl, by decide⟩ rfl (Nat.le_of_ble_eq_true rfl) (Nat.zero_add _) (Nat.zero_add _) rfl ?_
    refine p_mp5 ⟨a7_69, a7_70, a7_73, a7_74⟩ ?_
    refine aw_re (S' := [.int 0]) rfl ?_
    refine aw_istore_n (npc := 10) (L' := [some (.ref 69), some (.int (nI N)), some (.int 0)]) dX8_endsWell_9 rfl (by decide) rfl rfl ?_
    refine aw_aload_n (npc := 11) rfl dX8_endsWell_10 rfl ?_
    refine aw_callV (npc := 14) (N := mX8_putsBack) (b := 69) (mc := 0) (ms := 0) (A := []) (S := []) (L0 := [some (.ref 69), none]) dX8_endsWell_11 rfl km_X8_putsBack kk_X8_175 a7_69 ⟨by decide, rfl⟩ rfl ⟨rfl, by decide⟩ rfl (Nat.le_of_ble_eq_true rfl) (Nat.zero_add _) (Nat.zero_add _) rfl ?_
    refine p_puts ⟨a7_69, a7_70, a7_73, a7_74⟩ (fun h9 F8 => ?_)
    obtain ⟨a9_69, a9_70, a9_73, a9_74⟩ := F8
    refine aw_iload_n (npc := 15) rfl dX8_endsWell_14 rfl ?_
    refine aw_zret rfl rfl dX8_endsWell_15 ?_
    refine aw_re (S' := [.int 0]) rfl ?_
    refine aw_istore_n (npc := 25) (L' := [some (.ref 69), some (.int (nI N)), some (.int 0), some (.int 0), none]) dX8_held_24 rfl (by decide) rfl rfl ?_
    refine aw_iconst (npc := 26) (v := 0) (by decide) dX8_held_25 rfl ?_
    refine aw_istore (npc := 28) (L' := [some (.ref 69), some (.int (nI N)), some (.int 0), some (.int 0), some (.int 0)]) dX8_held_26 rfl (by decide) rfl rfl ?_
    refine aw_iload (npc := 30) rfl dX8_held_28 rfl ?_
    refine aw_aload_n (npc := 31) rfl dX8_held_30 rfl ?_
    refine aw_get (npc := 34) dX8_held_31 rfl kf_X8_9 a9_69 rfl ?_
    refine aw_iconst (npc := 35) (v := 1) (by decide) dX8_held_34 rfl ?_
    refine aw_iald (npc := 36) (x := 0) (j := 1) dX8_held_35 rfl a9_70 ⟨by decide, by decide⟩ rfl ?_
    refine aw_icmp_ge (npc := 39) (tgt := 74) dX8_held_36 rfl (by decide) (fun _ => ?_) (fun hc => absurd (by decide) hc)
    refine aw_iload_n (npc := 75) rfl dX8_held_74 rfl ?_
    refine aw_iret rfl dX8_held_75 ?_
    exact fin_m hq (show sp_held (nI N) = 0 from (by unfold sp_held; first | rfl | (simp only [wif_t hw1, wif_same, ite_self]; done) | (simp only [wif_t hw1, wif_same, ite_self]; rfl) | (simp [wif_t hw1, wif_same]; done)))
  · refine aw_re (S' := [.int 0]) rfl ?_
    refine aw_if_ne (npc := 10) (tgt := 13) dX8_held_7 rfl (by decide) (fun hc => absurd (by decide) hc) (fun _ => ?_)
    refine aw_ldc (npc := 12) kc_X8_91 dX8_held_10 rfl ?_
    refine aw_iret rfl dX8_held_12 ?_
    exact fin_m hq (show sp_held n = (-1000000001) from (by unfold sp_held; first | rfl | (simp only [wif_f hw1, wif_same, ite_self]; done) | (simp only [wif_f hw1, wif_same, ite_self]; rfl) | (simp [wif_f hw1, wif_same]; done)))
set_option maxHeartbeats 40000000 in
set_option maxRecDepth 100000 in
theorem p_mendsL {X : List Int32} {d rc rs nn : Nat} {Q : am_Q} {w : Int32} (hq : ∀ n9 h9, Q (some (.int (-1000000005))) n9 h9) : ∀ (m j : Nat), j + m = 201 → ∀ (hot pt : Int32) (h : am_H), fm (-1) hot 0 pt 5 5 5 5 nb h → AW X mX8_ends (d + 12) rc rs 18 [some (.ref 69), some (.int w), some (.int (nI j)), none] [] nn h Q := by
  intro m
  induction m with
  | zero =>
    intro j hj hot pt h F
    obtain rfl : j = 201 := by omega
    obtain ⟨g69, g70, g73, g74⟩ := F
    refine aw_iload_n (npc := 19) rfl dX8_ends_18 rfl ?_
    refine aw_sipush (npc := 22) (v := 200) (by decide) dX8_ends_19 rfl ?_
    refine aw_icmp_gt (npc := 25) (tgt := 57) dX8_ends_22 rfl (by decide) (fun _ => ?_) (fun hc => absurd (nI_lt (a := 200) (b := 201) (by omega) (by omega)) hc)
    refine aw_aload_n (npc := 58) rfl dX8_ends_57 rfl ?_
    refine aw_callV (npc := 61) (N := mX8_isPeace) (b := 69) (mc := 0) (ms := 0) (A := []) (S := []) (L0 := [some (.ref 69)]) dX8_ends_58 rfl km_X8_isPeace kk_X8_149 g69 ⟨by decide, rfl⟩ rfl ⟨rfl, by decide⟩ rfl (Nat.le_of_ble_eq_true rfl) (Nat.zero_add _) (Nat.zero_add _) rfl ?_
    refine p_mp5 ⟨g69, g70, g73, g74⟩ ?_
    refine aw_re (S' := [.int 0]) rfl ?_
    refine aw_if_eq (npc := 64) (tgt := 68) dX8_ends_61 rfl (by decide) (fun _ => ?_) (fun hc => absurd (by decide) hc)
    refine aw_iconst (npc := 69) (v := 2) (by decide) dX8_ends_68 rfl ?_
    refine aw_istore_n (npc := 70) (L' := [some (.ref 69), some (.int w), some (.int (nI 201)), some (.int 2)]) dX8_ends_69 rfl (by decide) rfl rfl ?_
    refine aw_aload_n (npc := 71) rfl dX8_ends_70 rfl ?_
    refine aw_callV (npc := 74) (N := mX8_putsBack) (b := 69) (mc := 0) (ms := 0) (A := []) (S := []) (L0 := [some (.ref 69), none]) dX8_ends_71 rfl km_X8_putsBack kk_X8_175 g69 ⟨by decide, rfl⟩ rfl ⟨rfl, by decide⟩ rfl (Nat.le_of_ble_eq_true rfl) (Nat.zero_add _) (Nat.zero_add _) rfl ?_
    refine p_puts ⟨g69, g70, g73, g74⟩ (fun h9 F2 => ?_)
    obtain ⟨a3_69, a3_70, a3_73, a3_74⟩ := F2
    refine aw_iload_n (npc := 75) rfl dX8_ends_74 rfl ?_
    refine aw_sipush (npc := 78) (v := 200) (by decide) dX8_ends_75 rfl ?_
    refine aw_icmp_le (npc := 81) (tgt := 86) dX8_ends_78 rfl (by decide) (fun hc => absurd hc (nI_ge (a := 200) (b := 201) (by omega) (by omega))) (fun _ => ?_)
    refine aw_ldc (npc := 83) kc_X8_82 dX8_ends_81 rfl ?_
    refine aw_goto (npc := 95) dX8_ends_83 (by decide) ?_
    refine aw_iret rfl dX8_ends_95 ?_
    exact hq _ _
  | succ m ih =>
    intro j hj hot pt h F
    obtain ⟨g69, g70, g73, g74⟩ := F
    refine aw_iload_n (npc := 19) rfl dX8_ends_18 rfl ?_
    refine aw_sipush (npc := 22) (v := 200) (by decide) dX8_ends_19 rfl ?_
    refine aw_icmp_gt (npc := 25) (tgt := 57) dX8_ends_22 rfl (by decide) (fun hc => absurd hc (nI_nlt (a := 200) (b := j) (by omega) (by omega))) (fun _ => ?_)
    refine aw_aload_n (npc := 26) rfl dX8_ends_25 rfl ?_
    refine aw_callV (npc := 29) (N := mX8_isPeace) (b := 69) (mc := 0) (ms := 0) (A := []) (S := []) (L0 := [some (.ref 69)]) dX8_ends_26 rfl km_X8_isPeace kk_X8_149 g69 ⟨by decide, rfl⟩ rfl ⟨rfl, by decide⟩ rfl (Nat.le_of_ble_eq_true rfl) (Nat.zero_add _) (Nat.zero_add _) rfl ?_
    refine p_mp5 ⟨g69, g70, g73, g74⟩ ?_
    refine aw_re (S' := [.int 0]) rfl ?_
    refine aw_if_ne (npc := 32) (tgt := 57) dX8_ends_29 rfl (by decide) (fun hc => absurd (by decide) hc) (fun _ => ?_)
    refine aw_aload_n (npc := 33) rfl dX8_ends_32 rfl ?_
    refine aw_get (npc := 36) dX8_ends_33 rfl kf_X8_9 g69 rfl ?_
    refine aw_iconst (npc := 37) (v := 3) (by decide) dX8_ends_36 rfl ?_
    refine aw_iald (npc := 38) (x := 0) (j := 3) dX8_ends_37 rfl g70 ⟨by decide, by decide⟩ rfl ?_
    refine aw_aload_n (npc := 39) rfl dX8_ends_38 rfl ?_
    refine aw_get (npc := 42) dX8_ends_39 rfl kf_X8_9 g69 rfl ?_
    refine aw_iconst (npc := 43) (v := 4) (by decide) dX8_ends_42 rfl ?_
    refine aw_iald (npc := 44) (x := 60) (j := 4) dX8_ends_43 rfl g70 ⟨by decide, by decide⟩ rfl ?_
    refine aw_icmp_ge (npc := 47) (tgt := 57) dX8_ends_44 rfl (by decide) (fun hc => absurd hc (by decide)) (fun _ => ?_)
    refine aw_aload_n (npc := 48) rfl dX8_ends_47 rfl ?_
    refine aw_callV (npc := 51) (N := mX8_post) (b := 69) (mc := 0) (ms := 0) (A := []) (S := []) (L0 := [some (.ref 69), none]) dX8_ends_48 rfl km_X8_post kk_X8_157 g69 ⟨by decide, rfl⟩ rfl ⟨rfl, by decide⟩ rfl (Nat.le_of_ble_eq_true rfl) (Nat.zero_add _) (Nat.zero_add _) rfl ?_
    refine p_mpost ⟨by decide, by decide⟩ ⟨g69, g70, g73, g74⟩ (fun ht3 h9 F2 => ?_)
    obtain ⟨a4_69, a4_70, a4_73, a4_74⟩ := F2
    refine aw_iinc (npc := 54) (v := nI (j + 1)) (L' := [some (.ref 69), some (.int w), some (.int (nI (j + 1))), none]) dX8_ends_51 rfl rfl (nI_1 j) (by decide) rfl rfl ?_
    refine aw_goto (npc := 18) dX8_ends_54 (by decide) ?_
    exact ih (j + 1) (by omega) _ _ _ ⟨a4_69, a4_70, a4_73, a4_74⟩
set_option maxHeartbeats 40000000 in
set_option maxRecDepth 100000 in
theorem p_X8_ends {X : List Int32} {d rc rs : Nat} {h : am_H} {Q : am_Q} {w : Int32} (F : f0_X8 h) (hq : ∀ n9 h9, Q (some (.int (sp_ends w))) n9 h9) : AW X mX8_ends (d + 14) rc rs 0 [some (.ref 69), some (.int w), none, none] [] 92 h Q := by
  obtain ⟨g69, g70, -, -, g73, g74, -, -, -, -, -, -, -, -, -, -, -, -, -, -, -, -, -⟩ := F
  have g70n : h 70 = some (.inl (0, nw 0 0 5 5 5 5)) := g70.trans (congrArg (fun l : List Int32 => (some (.inl (0, l)) : Option am_AC)) (by decide +kernel))
  refine aw_iload_n (npc := 1) rfl dX8_ends_0 rfl ?_
  refine aw_iconst (npc := 2) (v := 0) (by decide) dX8_ends_1 rfl ?_
  refine aw_iconst (npc := 3) (v := 1) (by decide) dX8_ends_2 rfl ?_
  refine aw_callS (npc := 6) (N := mX8_in) (mc := 0) (ms := 0) (A := [.int w, .int 0, .int 1]) (S := []) (L0 := [some (.int w), some (.int 0), some (.int 1)]) dX8_ends_3 rfl km_X8_in kk_X8_83 rfl ⟨rfl, by decide⟩ rfl (Nat.le_of_ble_eq_true rfl) (Nat.zero_add _) (Nat.zero_add _) rfl ?_
  refine c_X8_in (fun hw1 => ?_) (fun hw1 => ?_)
  · refine aw_re (S' := [.int 1]) rfl ?_
    refine aw_if_ne (npc := 9) (tgt := 12) dX8_ends_6 rfl (by decide) (fun _ => ?_) (fun hc => absurd hc (by decide))
    refine aw_aload_n (npc := 13) rfl dX8_ends_12 rfl ?_
    refine aw_callV (npc := 16) (N := mX8_thinks) (b := 69) (mc := 0) (ms := 0) (A := []) (S := []) (L0 := [some (.ref 69), none]) dX8_ends_13 rfl km_X8_thinks kk_X8_169 g69 ⟨by decide, rfl⟩ rfl ⟨rfl, by decide⟩ rfl (Nat.le_of_ble_eq_true rfl) (Nat.zero_add _) (Nat.zero_add _) rfl ?_
    refine p_thinks ⟨g69, g70n, g73, g74⟩ (fun h9 F2 => ?_)
    obtain ⟨a3_69, a3_70, a3_73, a3_74⟩ := F2
    refine aw_iconst (npc := 17) (v := 0) (by decide) dX8_ends_16 rfl ?_
    refine aw_istore_n (npc := 18) (L' := [some (.ref 69), some (.int w), some (.int 0), none]) dX8_ends_17 rfl (by decide) rfl rfl ?_
    refine aw_locs (L' := [some (.ref 69), some (.int w), some (.int (nI 0)), none]) rfl ?_
    refine p_mendsL (fun n9 h9 => ?_) 201 0 (by omega) _ _ _ ⟨a3_69, a3_70, a3_73, a3_74⟩
    exact fin_m hq (show sp_ends w = (-1000000005) from (by unfold sp_ends; first | rfl | (simp only [wif_t hw1, wif_same, ite_self]; done) | (simp only [wif_t hw1, wif_same, ite_self]; rfl) | (simp [wif_t hw1, wif_same]; done)))
  · refine aw_re (S' := [.int 0]) rfl ?_
    refine aw_if_ne (npc := 9) (tgt := 12) dX8_ends_6 rfl (by decide) (fun hc => absurd (by decide) hc) (fun _ => ?_)
    refine aw_ldc (npc := 11) kc_X8_91 dX8_ends_9 rfl ?_
    refine aw_iret rfl dX8_ends_11 ?_
    exact fin_m hq (show sp_ends w = (-1000000001) from (by unfold sp_ends; first | rfl | (simp only [wif_f hw1, wif_same, ite_self]; done) | (simp only [wif_f hw1, wif_same, ite_self]; rfl) | (simp [wif_f hw1, wif_same]; done)))
set_option maxHeartbeats 40000000 in
set_option maxRecDepth 100000 in
theorem p_mcoolL {X : List Int32} {d rc rs nn : Nat} {Q : am_Q} {N : Nat} (hN : N ≤ 40) (hq : ∀ n9 h9, Q (some (.int (-1000000005))) n9 h9) : ∀ (m : Nat), m ≤ 100 → ∀ (hot : Int32) (h : am_H), fm (-1) hot 0 0 5 5 5 5 nb h → AW X mX8_cool (d + 12) rc rs 22 [some (.ref 69), some (.int (nI N)), some (.int (-1)), some (.int (nI m + (-1)))] [] nn h Q := by
  intro m
  induction m with
  | zero =>
    intro hm hot h F
    refine aw_iload_n (npc := 23) rfl dX8_cool_22 rfl ?_
    refine aw_if_lt (npc := 26) (tgt := 57) dX8_cool_23 rfl (by decide) (fun _ => ?_) (fun hc => absurd (by decide) hc)
    refine aw_iload_n (npc := 58) rfl dX8_cool_57 rfl ?_
    refine aw_callS (npc := 61) (N := mX8_told0) (mc := 0) (ms := 0) (A := [.int (-1)]) (S := []) (L0 := [some (.int (-1))]) dX8_cool_58 rfl km_X8_told0 kk_X8_124 rfl ⟨rfl, by decide⟩ rfl (Nat.le_of_ble_eq_true rfl) (Nat.zero_add _) (Nat.zero_add _) rfl ?_
    refine aw_iload_n (npc := 1) rfl dX8_told0_0 rfl ?_
    refine aw_if_ge (npc := 4) (tgt := 9) dX8_told0_1 rfl (by decide) (fun hc => absurd hc (by decide)) (fun _ => ?_)
    refine aw_ldc (npc := 6) kc_X8_82 dX8_told0_4 rfl ?_
    refine aw_goto (npc := 10) dX8_told0_6 (by decide) ?_
    refine aw_iret rfl dX8_told0_10 ?_
    refine aw_re (S' := [.int (-1000000005)]) rfl ?_
    refine aw_iret rfl dX8_cool_61 ?_
    exact hq _ _
  | succ m ih =>
    intro hm hot h F
    obtain ⟨g69, g70, g73, g74⟩ := F
    refine aw_locs (L' := [some (.ref 69), some (.int (nI N)), some (.int (-1)), some (.int (nI m))]) (by rw [pk_m1]) ?_
    refine aw_iload_n (npc := 23) rfl dX8_cool_22 rfl ?_
    refine aw_if_lt (npc := 26) (tgt := 57) dX8_cool_23 rfl (by decide) (fun hc => absurd hc (nI_pos (by omega))) (fun _ => ?_)
    refine aw_iload_n (npc := 27) rfl dX8_cool_26 rfl ?_
    refine aw_if_ge (npc := 30) (tgt := 57) dX8_cool_27 rfl (by decide) (fun hc => absurd hc (by decide)) (fun _ => ?_)
    refine aw_aload_n (npc := 31) rfl dX8_cool_30 rfl ?_
    refine aw_get (npc := 34) dX8_cool_31 rfl kf_X8_9 g69 rfl ?_
    refine aw_iconst (npc := 35) (v := 3) (by decide) dX8_cool_34 rfl ?_
    refine aw_iload_n (npc := 36) rfl dX8_cool_35 rfl ?_
    refine aw_iast (npc := 37) (j := 3) dX8_cool_36 rfl g70 ⟨by decide, by decide⟩ (Nat.le_of_ble_eq_true rfl) (show _ = am_up _ 70 (.inl (0, nw (nI m) 0 5 5 5 5)) from rfl) ?_
    refine aw_aload_n (npc := 38) rfl dX8_cool_37 rfl ?_
    refine aw_iload_n (npc := 39) rfl dX8_cool_38 rfl ?_
    refine aw_callV (npc := 42) (N := mX8_endsWell) (b := 69) (mc := 0) (ms := 0) (A := [.int (nI N)]) (S := []) (L0 := [some (.ref 69), some (.int (nI N)), none]) dX8_cool_39 rfl km_X8_endsWell kk_X8_181 (am_ne (by decide) g69) ⟨by decide, rfl⟩ rfl ⟨rfl, by decide⟩ rfl (Nat.le_of_ble_eq_true rfl) (Nat.zero_add _) (Nat.zero_add _) rfl ?_
    refine aw_aload_n (npc := 1) rfl dX8_endsWell_0 rfl ?_
    refine aw_iload_n (npc := 2) rfl dX8_endsWell_1 rfl ?_
    refine aw_callV (npc := 5) (N := mX8_goesOn) (b := 69) (mc := 0) (ms := 0) (A := [.int (nI N)]) (S := []) (L0 := [some (.ref 69), some (.int (nI N)), none]) dX8_endsWell_2 rfl km_X8_goesOn kk_X8_163 (am_ne (by decide) g69) ⟨by decide, rfl⟩ rfl ⟨rfl, by decide⟩ rfl (Nat.le_of_ble_eq_true rfl) (Nat.zero_add _) (Nat.zero_add _) rfl ?_
    refine p_go ⟨nI_pos (by omega), nI_nlt (a := 99) (b := m) (by omega) (by omega)⟩ (by omega) ⟨(am_ne (by decide) g69), am_eq, (am_ne (by decide) g73), (am_ne (by decide) g74)⟩ (fun ht3 pt4 h9 F2 => ?_)
    obtain ⟨a5_69, a5_70, a5_73, a5_74⟩ := F2
    refine aw_aload_n (npc := 6) rfl dX8_endsWell_5 rfl ?_
    refine aw_callV (npc := 9) (N := mX8_isPeace) (b := 69) (mc := 0) (ms := 0) (A := []) (S := []) (L0 := [some (.ref 69)]) dX8_endsWell_6 rfl km_X8_isPeace kk_X8_149 a5_69 ⟨by decide, rfl⟩ rfl ⟨rfl, by decide⟩ rfl (Nat.le_of_ble_eq_true rfl) (Nat.zero_add _) (Nat.zero_add _) rfl ?_
    refine p_mp5 ⟨a5_69, a5_70, a5_73, a5_74⟩ ?_
    refine aw_re (S' := [.int 0]) rfl ?_
    refine aw_istore_n (npc := 10) (L' := [some (.ref 69), some (.int (nI N)), some (.int 0)]) dX8_endsWell_9 rfl (by decide) rfl rfl ?_
    refine aw_aload_n (npc := 11) rfl dX8_endsWell_10 rfl ?_
    refine aw_callV (npc := 14) (N := mX8_putsBack) (b := 69) (mc := 0) (ms := 0) (A := []) (S := []) (L0 := [some (.ref 69), none]) dX8_endsWell_11 rfl km_X8_putsBack kk_X8_175 a5_69 ⟨by decide, rfl⟩ rfl ⟨rfl, by decide⟩ rfl (Nat.le_of_ble_eq_true rfl) (Nat.zero_add _) (Nat.zero_add _) rfl ?_
    refine p_puts ⟨a5_69, a5_70, a5_73, a5_74⟩ (fun h9 F6 => ?_)
    obtain ⟨a7_69, a7_70, a7_73, a7_74⟩ := F6
    refine aw_iload_n (npc := 15) rfl dX8_endsWell_14 rfl ?_
    refine aw_zret rfl rfl dX8_endsWell_15 ?_
    refine aw_re (S' := [.int 0]) rfl ?_
    refine aw_if_eq (npc := 45) (tgt := 49) dX8_cool_42 rfl (by decide) (fun _ => ?_) (fun hc => absurd (by decide) hc)
    refine aw_iconst (npc := 50) (v := -1) (by decide) dX8_cool_49 rfl ?_
    refine aw_istore_n (npc := 51) (L' := [some (.ref 69), some (.int (nI N)), some (.int (-1)), some (.int (nI m))]) dX8_cool_50 rfl (by decide) rfl rfl ?_
    refine aw_iinc (npc := 54) (v := nI m + (-1)) (L' := [some (.ref 69), some (.int (nI N)), some (.int (-1)), some (.int (nI m + (-1)))]) dX8_cool_51 rfl rfl rfl (by decide) rfl rfl ?_
    refine aw_goto (npc := 22) dX8_cool_54 (by decide) ?_
    exact ih (by omega) _ _ ⟨a7_69, a7_70, a7_73, a7_74⟩
set_option maxHeartbeats 40000000 in
set_option maxRecDepth 100000 in
theorem p_X8_cool {X : List Int32} {d rc rs : Nat} {h : am_H} {Q : am_Q} {n : Int32} (F : f0_X8 h) (hq : ∀ n9 h9, Q (some (.int (sp_cool n))) n9 h9) : AW X mX8_cool (d + 14) rc rs 0 [some (.ref 69), some (.int n), none, none] [] 92 h Q := by
  obtain ⟨g69, g70, -, -, g73, g74, -, -, -, -, -, -, -, -, -, -, -, -, -, -, -, -, -⟩ := F
  have g70n : h 70 = some (.inl (0, nw 0 0 5 5 5 5)) := g70.trans (congrArg (fun l : List Int32 => (some (.inl (0, l)) : Option am_AC)) (by decide +kernel))
  refine aw_iload_n (npc := 1) rfl dX8_cool_0 rfl ?_
  refine aw_iconst (npc := 2) (v := 1) (by decide) dX8_cool_1 rfl ?_
  refine aw_bipush (npc := 4) (v := 40) (by decide) dX8_cool_2 rfl ?_
  refine aw_callS (npc := 7) (N := mX8_in) (mc := 0) (ms := 0) (A := [.int n, .int 1, .int 40]) (S := []) (L0 := [some (.int n), some (.int 1), some (.int 40)]) dX8_cool_4 rfl km_X8_in kk_X8_83 rfl ⟨rfl, by decide⟩ rfl (Nat.le_of_ble_eq_true rfl) (Nat.zero_add _) (Nat.zero_add _) rfl ?_
  refine c_X8_in (fun hw1 => ?_) (fun hw1 => ?_)
  · refine aw_re (S' := [.int 1]) rfl ?_
    refine aw_if_ne (npc := 10) (tgt := 13) dX8_cool_7 rfl (by decide) (fun _ => ?_) (fun hc => absurd hc (by decide))
    obtain ⟨N, hN, rfl⟩ := wi_nI (H := 40) rfl (by decide) hw1
    refine aw_aload_n (npc := 14) rfl dX8_cool_13 rfl ?_
    refine aw_callV (npc := 17) (N := mX8_thinks) (b := 69) (mc := 0) (ms := 0) (A := []) (S := []) (L0 := [some (.ref 69), none]) dX8_cool_14 rfl km_X8_thinks kk_X8_169 g69 ⟨by decide, rfl⟩ rfl ⟨rfl, by decide⟩ rfl (Nat.le_of_ble_eq_true rfl) (Nat.zero_add _) (Nat.zero_add _) rfl ?_
    refine p_thinks ⟨g69, g70n, g73, g74⟩ (fun h9 F2 => ?_)
    obtain ⟨a3_69, a3_70, a3_73, a3_74⟩ := F2
    refine aw_iconst (npc := 18) (v := -1) (by decide) dX8_cool_17 rfl ?_
    refine aw_istore_n (npc := 19) (L' := [some (.ref 69), some (.int (nI N)), some (.int (-1)), none]) dX8_cool_18 rfl (by decide) rfl rfl ?_
    refine aw_bipush (npc := 21) (v := 99) (by decide) dX8_cool_19 rfl ?_
    refine aw_istore_n (npc := 22) (L' := [some (.ref 69), some (.int (nI N)), some (.int (-1)), some (.int 99)]) dX8_cool_21 rfl (by decide) rfl rfl ?_
    refine aw_locs (L' := [some (.ref 69), some (.int (nI N)), some (.int (-1)), some (.int (nI 100 + (-1)))]) rfl ?_
    refine p_mcoolL hN (fun n9 h9 => ?_) 100 (by omega) _ _ ⟨a3_69, a3_70, a3_73, a3_74⟩
    exact fin_m hq (show sp_cool (nI N) = (-1000000005) from (by unfold sp_cool; first | rfl | (simp only [wif_t hw1, wif_same, ite_self]; done) | (simp only [wif_t hw1, wif_same, ite_self]; rfl) | (simp [wif_t hw1, wif_same]; done)))
  · refine aw_re (S' := [.int 0]) rfl ?_
    refine aw_if_ne (npc := 10) (tgt := 13) dX8_cool_7 rfl (by decide) (fun hc => absurd (by decide) hc) (fun _ => ?_)
    refine aw_ldc (npc := 12) kc_X8_91 dX8_cool_10 rfl ?_
    refine aw_iret rfl dX8_cool_12 ?_
    exact fin_m hq (show sp_cool n = (-1000000001) from (by unfold sp_cool; first | rfl | (simp only [wif_f hw1, wif_same, ite_self]; done) | (simp only [wif_f hw1, wif_same, ite_self]; rfl) | (simp [wif_f hw1, wif_same]; done)))
set_option maxHeartbeats 40000000 in
set_option maxRecDepth 100000 in
theorem p_X8_takenL {X : List Int32} {d rc rs nn : Nat} {Q : am_Q} (hq : ∀ n9 h9, Q (some (.int 0)) n9 h9) : ∀ (m j : Nat), j + m = 10000 → ∀ (hot s0 s1 s2 s3 : Int32) (h : am_H), fm (-1) hot 0 0 s0 s1 s2 s3 nb h → AW X mX8_taken (d + 12) rc rs 8 [some (.ref 69), some (.int 0), some (.int (nI j))] [] nn h Q := by
  intro m
  induction m with
  | zero =>
    intro j hj hot s0 s1 s2 s3 h F
    obtain rfl : j = 10000 := by omega
    obtain ⟨g69, g70, g73, g74⟩ := F
    refine aw_iload_n (npc := 9) rfl dX8_taken_8 rfl ?_
    refine aw_sipush (npc := 12) (v := 10000) (by decide) dX8_taken_9 rfl ?_
    refine aw_icmp_ge (npc := 15) (tgt := 41) dX8_taken_12 rfl (by decide) (fun _ => ?_) (fun hc => absurd (nI_le (a := 10000) (b := 10000) (by omega) (by omega)) hc)
    refine aw_aload_n (npc := 42) rfl dX8_taken_41 rfl ?_
    refine aw_callV (npc := 45) (N := mX8_putsBack) (b := 69) (mc := 0) (ms := 0) (A := []) (S := []) (L0 := [some (.ref 69), none]) dX8_taken_42 rfl km_X8_putsBack kk_X8_175 g69 ⟨by decide, rfl⟩ rfl ⟨rfl, by decide⟩ rfl (Nat.le_of_ble_eq_true rfl) (Nat.zero_add _) (Nat.zero_add _) rfl ?_
    refine p_puts ⟨g69, g70, g73, g74⟩ (fun h9 F2 => ?_)
    obtain ⟨a3_69, a3_70, a3_73, a3_74⟩ := F2
    refine aw_iload_n (npc := 46) rfl dX8_taken_45 rfl ?_
    refine aw_iret rfl dX8_taken_46 ?_
    exact hq _ _
  | succ m ih =>
    intro j hj hot s0 s1 s2 s3 h F
    obtain ⟨g69, g70, g73, g74⟩ := F
    refine aw_iload_n (npc := 9) rfl dX8_taken_8 rfl ?_
    refine aw_sipush (npc := 12) (v := 10000) (by decide) dX8_taken_9 rfl ?_
    refine aw_icmp_ge (npc := 15) (tgt := 41) dX8_taken_12 rfl (by decide) (fun hc => absurd hc (nI_ge (a := j) (b := 10000) (by omega) (by omega))) (fun _ => ?_)
    refine aw_aload_n (npc := 16) rfl dX8_taken_15 rfl ?_
    refine aw_iload_n (npc := 17) rfl dX8_taken_16 rfl ?_
    refine aw_callV (npc := 20) (N := mX8_standAs) (b := 69) (mc := 0) (ms := 0) (A := [.int (nI j)]) (S := []) (L0 := [some (.ref 69), some (.int (nI j)), none, none]) dX8_taken_17 rfl km_X8_standAs kk_X8_172 g69 ⟨by decide, rfl⟩ rfl ⟨rfl, by decide⟩ rfl (Nat.le_of_ble_eq_true rfl) (Nat.zero_add _) (Nat.zero_add _) rfl ?_
    refine p_standAs (V := j) (by omega) ⟨g69, g70, g73, g74⟩ (fun h9 F2 => ?_)
    obtain ⟨a3_69, a3_70, a3_73, a3_74⟩ := F2
    refine aw_iload_n (npc := 21) rfl dX8_taken_20 rfl ?_
    refine aw_aload_n (npc := 22) rfl dX8_taken_21 rfl ?_
    refine aw_callV (npc := 25) (N := mX8_isPeace) (b := 69) (mc := 0) (ms := 0) (A := []) (S := [.int 0]) (L0 := [some (.ref 69)]) dX8_taken_22 rfl km_X8_isPeace kk_X8_149 a3_69 ⟨by decide, rfl⟩ rfl ⟨rfl, by decide⟩ rfl (Nat.le_of_ble_eq_true rfl) (Nat.zero_add _) (Nat.zero_add _) rfl ?_
    refine p_mpD (by omega) (by omega) (by omega) (by omega) ⟨a3_69, a3_70, a3_73, a3_74⟩ ?_
    refine aw_re (S' := [.int 0, .int 0]) rfl ?_
    refine aw_if_eq (npc := 28) (tgt := 32) dX8_taken_25 rfl (by decide) (fun _ => ?_) (fun hc => absurd (by decide) hc)
    refine aw_iconst (npc := 33) (v := 0) (by decide) dX8_taken_32 rfl ?_
    refine aw_iaddV (npc := 34) (v := 0) dX8_taken_33 rfl (by decide) ?_
    refine aw_istore_n (npc := 35) (L' := [some (.ref 69), some (.int 0), some (.int (nI j))]) dX8_taken_34 rfl (by decide) rfl rfl ?_
    refine aw_iinc (npc := 38) (v := nI (j + 1)) (L' := [some (.ref 69), some (.int 0), some (.int (nI (j + 1)))]) dX8_taken_35 rfl rfl (nI_1 j) (by decide) rfl rfl ?_
    refine aw_goto (npc := 8) dX8_taken_38 (by decide) ?_
    exact ih (j + 1) (by omega) _ _ _ _ _ _ ⟨a3_69, a3_70, a3_73, a3_74⟩
set_option maxHeartbeats 40000000 in
set_option maxRecDepth 100000 in
theorem p_X8_termsL {X : List Int32} {d rc rs nn : Nat} {Q : am_Q} {w : Int32} (hq : ∀ n9 h9, Q (some (.int (-1000000005))) n9 h9) : ∀ (m j : Nat), j + m = 10000 → ∀ (hot s0 s1 s2 s3 : Int32) (h : am_H), fm (-1) hot 0 0 s0 s1 s2 s3 nb h → AW X mX8_terms (d + 12) rc rs 23 [some (.ref 69), some (.int w), some (.int (-1)), some (.int 0), some (.int (nI j)), none] [] nn h Q := by
  intro m
  induction m with
  | zero =>
    intro j hj hot s0 s1 s2 s3 h F
    obtain rfl : j = 10000 := by omega
    obtain ⟨g69, g70, g73, g74⟩ := F
    refine aw_iload (npc := 25) rfl dX8_terms_23 rfl ?_
    refine aw_sipush (npc := 28) (v := 10000) (by decide) dX8_terms_25 rfl ?_
    refine aw_icmp_ge (npc := 31) (tgt := 73) dX8_terms_28 rfl (by decide) (fun _ => ?_) (fun hc => absurd (nI_le (a := 10000) (b := 10000) (by omega) (by omega)) hc)
    refine aw_aload_n (npc := 74) rfl dX8_terms_73 rfl ?_
    refine aw_callV (npc := 77) (N := mX8_putsBack) (b := 69) (mc := 0) (ms := 0) (A := []) (S := []) (L0 := [some (.ref 69), none]) dX8_terms_74 rfl km_X8_putsBack kk_X8_175 g69 ⟨by decide, rfl⟩ rfl ⟨rfl, by decide⟩ rfl (Nat.le_of_ble_eq_true rfl) (Nat.zero_add _) (Nat.zero_add _) rfl ?_
    refine p_puts ⟨g69, g70, g73, g74⟩ (fun h9 F2 => ?_)
    obtain ⟨a3_69, a3_70, a3_73, a3_74⟩ := F2
    refine aw_iload_n (npc := 78) rfl dX8_terms_77 rfl ?_
    refine aw_callS (npc := 81) (N := mX8_told0) (mc := 0) (ms := 0) (A := [.int (-1)]) (S := []) (L0 := [some (.int (-1))]) dX8_terms_78 rfl km_X8_told0 kk_X8_124 rfl ⟨rfl, by decide⟩ rfl (Nat.le_of_ble_eq_true rfl) (Nat.zero_add _) (Nat.zero_add _) rfl ?_
    refine aw_iload_n (npc := 1) rfl dX8_told0_0 rfl ?_
    refine aw_if_ge (npc := 4) (tgt := 9) dX8_told0_1 rfl (by decide) (fun hc => absurd hc (by decide)) (fun _ => ?_)
    refine aw_ldc (npc := 6) kc_X8_82 dX8_told0_4 rfl ?_
    refine aw_goto (npc := 10) dX8_told0_6 (by decide) ?_
    refine aw_iret rfl dX8_told0_10 ?_
    refine aw_re (S' := [.int (-1000000005)]) rfl ?_
    refine aw_iret rfl dX8_terms_81 ?_
    exact hq _ _
  | succ m ih =>
    intro j hj hot s0 s1 s2 s3 h F
    obtain ⟨g69, g70, g73, g74⟩ := F
    refine aw_iload (npc := 25) rfl dX8_terms_23 rfl ?_
    refine aw_sipush (npc := 28) (v := 10000) (by decide) dX8_terms_25 rfl ?_
    refine aw_icmp_ge (npc := 31) (tgt := 73) dX8_terms_28 rfl (by decide) (fun hc => absurd hc (nI_ge (a := j) (b := 10000) (by omega) (by omega))) (fun _ => ?_)
    refine aw_aload_n (npc := 32) rfl dX8_terms_31 rfl ?_
    refine aw_iload (npc := 34) rfl dX8_terms_32 rfl ?_
    refine aw_callV (npc := 37) (N := mX8_standAs) (b := 69) (mc := 0) (ms := 0) (A := [.int (nI j)]) (S := []) (L0 := [some (.ref 69), some (.int (nI j)), none, none]) dX8_terms_34 rfl km_X8_standAs kk_X8_172 g69 ⟨by decide, rfl⟩ rfl ⟨rfl, by decide⟩ rfl (Nat.le_of_ble_eq_true rfl) (Nat.zero_add _) (Nat.zero_add _) rfl ?_
    refine p_standAs (V := j) (by omega) ⟨g69, g70, g73, g74⟩ (fun h9 F2 => ?_)
    obtain ⟨a3_69, a3_70, a3_73, a3_74⟩ := F2
    refine aw_aload_n (npc := 38) rfl dX8_terms_37 rfl ?_
    refine aw_callV (npc := 41) (N := mX8_isPeace) (b := 69) (mc := 0) (ms := 0) (A := []) (S := []) (L0 := [some (.ref 69)]) dX8_terms_38 rfl km_X8_isPeace kk_X8_149 a3_69 ⟨by decide, rfl⟩ rfl ⟨rfl, by decide⟩ rfl (Nat.le_of_ble_eq_true rfl) (Nat.zero_add _) (Nat.zero_add _) rfl ?_
    refine p_mpD (by omega) (by omega) (by omega) (by omega) ⟨a3_69, a3_70, a3_73, a3_74⟩ ?_
    refine aw_re (S' := [.int 0]) rfl ?_
    refine aw_if_eq (npc := 44) (tgt := 67) dX8_terms_41 rfl (by decide) (fun _ => ?_) (fun hc => absurd (by decide) hc)
    refine aw_iinc (npc := 70) (v := nI (j + 1)) (L' := [some (.ref 69), some (.int w), some (.int (-1)), some (.int 0), some (.int (nI (j + 1))), none]) dX8_terms_67 rfl rfl (nI_1 j) (by decide) rfl rfl ?_
    refine aw_goto (npc := 23) dX8_terms_70 (by decide) ?_
    exact ih (j + 1) (by omega) _ _ _ _ _ _ ⟨a3_69, a3_70, a3_73, a3_74⟩
set_option maxHeartbeats 40000000 in
set_option maxRecDepth 100000 in
theorem p_X8_taken {X : List Int32} {d rc rs : Nat} {h : am_H} {Q : am_Q} (F : f0_X8 h) (hq : ∀ n9 h9, Q (some (.int (sp_taken))) n9 h9) : AW X mX8_taken (d + 14) rc rs 0 [some (.ref 69), none, none] [] 92 h Q := by
  obtain ⟨g69, g70, -, -, g73, g74, -, -, -, -, -, -, -, -, -, -, -, -, -, -, -, -, -⟩ := F
  have g70n : h 70 = some (.inl (0, nw 0 0 5 5 5 5)) := g70.trans (congrArg (fun l : List Int32 => (some (.inl (0, l)) : Option am_AC)) (by decide +kernel))
  refine aw_aload_n (npc := 1) rfl dX8_taken_0 rfl ?_
  refine aw_callV (npc := 4) (N := mX8_thinks) (b := 69) (mc := 0) (ms := 0) (A := []) (S := []) (L0 := [some (.ref 69), none]) dX8_taken_1 rfl km_X8_thinks kk_X8_169 g69 ⟨by decide, rfl⟩ rfl ⟨rfl, by decide⟩ rfl (Nat.le_of_ble_eq_true rfl) (Nat.zero_add _) (Nat.zero_add _) rfl ?_
  refine p_thinks ⟨g69, g70n, g73, g74⟩ (fun h9 F1 => ?_)
  obtain ⟨a2_69, a2_70, a2_73, a2_74⟩ := F1
  refine aw_iconst (npc := 5) (v := 0) (by decide) dX8_taken_4 rfl ?_
  refine aw_istore_n (npc := 6) (L' := [some (.ref 69), some (.int 0), none]) dX8_taken_5 rfl (by decide) rfl rfl ?_
  refine aw_iconst (npc := 7) (v := 0) (by decide) dX8_taken_6 rfl ?_
  refine aw_istore_n (npc := 8) (L' := [some (.ref 69), some (.int 0), some (.int 0)]) dX8_taken_7 rfl (by decide) rfl rfl ?_
  refine aw_locs (L' := [some (.ref 69), some (.int 0), some (.int (nI 0))]) rfl ?_
  refine p_X8_takenL (fun n9 h9 => ?_) 10000 0 (by omega) _ _ _ _ _ _ ⟨a2_69, a2_70, a2_73, a2_74⟩
  exact fin_m hq (show sp_taken = 0 from (by unfold sp_taken; first | rfl | (simp only [wif_same, ite_self]; done) | (simp only [wif_same, ite_self]; rfl) | (simp [wif_same]; done)))
set_option maxHeartbeats 40000000 in
set_option maxRecDepth 100000 in
theorem p_X8_terms {X : List Int32} {d rc rs : Nat} {h : am_H} {Q : am_Q} {w : Int32} (F : f0_X8 h) (hq : ∀ n9 h9, Q (some (.int (sp_terms w))) n9 h9) : AW X mX8_terms (d + 14) rc rs 0 [some (.ref 69), some (.int w), none, none, none, none] [] 92 h Q := by
  obtain ⟨g69, g70, -, -, g73, g74, -, -, -, -, -, -, -, -, -, -, -, -, -, -, -, -, -⟩ := F
  have g70n : h 70 = some (.inl (0, nw 0 0 5 5 5 5)) := g70.trans (congrArg (fun l : List Int32 => (some (.inl (0, l)) : Option am_AC)) (by decide +kernel))
  refine aw_iload_n (npc := 1) rfl dX8_terms_0 rfl ?_
  refine aw_iconst (npc := 2) (v := 0) (by decide) dX8_terms_1 rfl ?_
  refine aw_iconst (npc := 3) (v := 1) (by decide) dX8_terms_2 rfl ?_
  refine aw_callS (npc := 6) (N := mX8_in) (mc := 0) (ms := 0) (A := [.int w, .int 0, .int 1]) (S := []) (L0 := [some (.int w), some (.int 0), some (.int 1)]) dX8_terms_3 rfl km_X8_in kk_X8_83 rfl ⟨rfl, by decide⟩ rfl (Nat.le_of_ble_eq_true rfl) (Nat.zero_add _) (Nat.zero_add _) rfl ?_
  refine c_X8_in (fun hw1 => ?_) (fun hw1 => ?_)
  · rcases wi_c0_1 hw1 with rfl | rfl
    · refine aw_re (S' := [.int 1]) rfl ?_
      refine aw_if_ne (npc := 9) (tgt := 12) dX8_terms_6 rfl (by decide) (fun _ => ?_) (fun hc => absurd hc (by decide))
      refine aw_aload_n (npc := 13) rfl dX8_terms_12 rfl ?_
      refine aw_callV (npc := 16) (N := mX8_thinks) (b := 69) (mc := 0) (ms := 0) (A := []) (S := []) (L0 := [some (.ref 69), none]) dX8_terms_13 rfl km_X8_thinks kk_X8_169 g69 ⟨by decide, rfl⟩ rfl ⟨rfl, by decide⟩ rfl (Nat.le_of_ble_eq_true rfl) (Nat.zero_add _) (Nat.zero_add _) rfl ?_
      refine p_thinks ⟨g69, g70n, g73, g74⟩ (fun h9 F2 => ?_)
      obtain ⟨a3_69, a3_70, a3_73, a3_74⟩ := F2
      refine aw_iconst (npc := 17) (v := -1) (by decide) dX8_terms_16 rfl ?_
      refine aw_istore_n (npc := 18) (L' := [some (.ref 69), some (.int 0), some (.int (-1)), none, none, none]) dX8_terms_17 rfl (by decide) rfl rfl ?_
      refine aw_iconst (npc := 19) (v := 0) (by decide) dX8_terms_18 rfl ?_
      refine aw_istore_n (npc := 20) (L' := [some (.ref 69), some (.int 0), some (.int (-1)), some (.int 0), none, none]) dX8_terms_19 rfl (by decide) rfl rfl ?_
      refine aw_iconst (npc := 21) (v := 0) (by decide) dX8_terms_20 rfl ?_
      refine aw_istore (npc := 23) (L' := [some (.ref 69), some (.int 0), some (.int (-1)), some (.int 0), some (.int 0), none]) dX8_terms_21 rfl (by decide) rfl rfl ?_
      refine aw_locs (L' := [some (.ref 69), some (.int 0), some (.int (-1)), some (.int 0), some (.int (nI 0)), none]) rfl ?_
      refine p_X8_termsL (fun n9 h9 => ?_) 10000 0 (by omega) _ _ _ _ _ _ ⟨a3_69, a3_70, a3_73, a3_74⟩
      exact fin_m hq (show sp_terms 0 = (-1000000005) from (by unfold sp_terms; first | rfl | (simp only [wif_t hw1, wif_same, ite_self]; done) | (simp only [wif_t hw1, wif_same, ite_self]; rfl) | (simp [wif_t hw1, wif_same]; done)))
    · refine aw_re (S' := [.int 1]) rfl ?_
      refine aw_if_ne (npc := 9) (tgt := 12) dX8_terms_6 rfl (by decide) (fun _ => ?_) (fun hc => absurd hc (by decide))
      refine aw_aload_n (npc := 13) rfl dX8_terms_12 rfl ?_
      refine aw_callV (npc := 16) (N := mX8_thinks) (b := 69) (mc := 0) (ms := 0) (A := []) (S := []) (L0 := [some (.ref 69), none]) dX8_terms_13 rfl km_X8_thinks kk_X8_169 g69 ⟨by decide, rfl⟩ rfl ⟨rfl, by decide⟩ rfl (Nat.le_of_ble_eq_true rfl) (Nat.zero_add _) (Nat.zero_add _) rfl ?_
      refine p_thinks ⟨g69, g70n, g73, g74⟩ (fun h9 F4 => ?_)
      obtain ⟨a5_69, a5_70, a5_73, a5_74⟩ := F4
      refine aw_iconst (npc := 17) (v := -1) (by decide) dX8_terms_16 rfl ?_
      refine aw_istore_n (npc := 18) (L' := [some (.ref 69), some (.int 1), some (.int (-1)), none, none, none]) dX8_terms_17 rfl (by decide) rfl rfl ?_
      refine aw_iconst (npc := 19) (v := 0) (by decide) dX8_terms_18 rfl ?_
      refine aw_istore_n (npc := 20) (L' := [some (.ref 69), some (.int 1), some (.int (-1)), some (.int 0), none, none]) dX8_terms_19 rfl (by decide) rfl rfl ?_
      refine aw_iconst (npc := 21) (v := 0) (by decide) dX8_terms_20 rfl ?_
      refine aw_istore (npc := 23) (L' := [some (.ref 69), some (.int 1), some (.int (-1)), some (.int 0), some (.int 0), none]) dX8_terms_21 rfl (by decide) rfl rfl ?_
      refine aw_locs (L' := [some (.ref 69), some (.int 1), some (.int (-1)), some (.int 0), some (.int (nI 0)), none]) rfl ?_
      refine p_X8_termsL (fun n9 h9 => ?_) 10000 0 (by omega) _ _ _ _ _ _ ⟨a5_69, a5_70, a5_73, a5_74⟩
      exact fin_m hq (show sp_terms 1 = (-1000000005) from (by unfold sp_terms; first | rfl | (simp only [wif_t hw1, wif_same, ite_self]; done) | (simp only [wif_t hw1, wif_same, ite_self]; rfl) | (simp [wif_t hw1, wif_same]; done)))
  · refine aw_re (S' := [.int 0]) rfl ?_
    refine aw_if_ne (npc := 9) (tgt := 12) dX8_terms_6 rfl (by decide) (fun hc => absurd (by decide) hc) (fun _ => ?_)
    refine aw_ldc (npc := 11) kc_X8_91 dX8_terms_9 rfl ?_
    refine aw_iret rfl dX8_terms_11 ?_
    exact fin_m hq (show sp_terms w = (-1000000001) from (by unfold sp_terms; first | rfl | (simp only [wif_f hw1, if_neg (ne_nwi hw1 (k := 0) ⟨by decide, by decide⟩), if_neg (ne_nwi hw1 (k := 1) ⟨by decide, by decide⟩), wif_same, ite_self]; done) | (simp only [wif_f hw1, if_neg (ne_nwi hw1 (k := 0) ⟨by decide, by decide⟩), if_neg (ne_nwi hw1 (k := 1) ⟨by decide, by decide⟩), wif_same, ite_self]; rfl) | (simp [wif_f hw1, if_neg (ne_nwi hw1 (k := 0) ⟨by decide, by decide⟩), if_neg (ne_nwi hw1 (k := 1) ⟨by decide, by decide⟩), wif_same]; done)))
set_option maxHeartbeats 40000000 in
set_option maxRecDepth 100000 in
theorem p_copyL {X : List Int32} {d rc rs nn : Nat} {Q : am_Q} (xs : List Int32) (hx : xs.length = 1434) : ∀ (m j : Nat), j + m = 1434 → ∀ (ys : List Int32) (h : am_H), ys.length = 1434 → h 70 = some (.inl (0, xs)) → h 71 = some (.inl (0, ys)) → (∀ h9, (∀ k, k ≠ 71 → h9 k = h k) → Q none nn h9) → AW X mX8_copyAll (d + 2) rc rs 2 [some (.ref 70), some (.ref 71), some (.int (nI j))] [] nn h Q := by
  intro m
  induction m with
  | zero =>
    intro j hj ys h hy g70 g71 hq
    obtain rfl : j = 1434 := by omega
    refine aw_iload_n (npc := 3) rfl dX8_copyAll_2 rfl ?_
    refine aw_sipush (npc := 6) (v := 1434) (by decide) dX8_copyAll_3 rfl ?_
    refine aw_icmp_ge (npc := 9) (tgt := 21) dX8_copyAll_6 rfl (by decide) (fun _ => ?_) (fun hc => absurd (nI_le (a := 1434) (b := 1434) (by omega) (by omega)) hc)
    refine aw_vret rfl dX8_copyAll_21 ?_
    exact hq h (fun _ _ => rfl)
  | succ m ih =>
    intro j hj ys h hy g70 g71 hq
    obtain ⟨x, hxj⟩ : ∃ x, xs[j]? = some x := ⟨xs[j]'(by omega), List.getElem?_eq_getElem (by omega)⟩
    refine aw_iload_n (npc := 3) rfl dX8_copyAll_2 rfl ?_
    refine aw_sipush (npc := 6) (v := 1434) (by decide) dX8_copyAll_3 rfl ?_
    refine aw_icmp_ge (npc := 9) (tgt := 21) dX8_copyAll_6 rfl (by decide) (fun hc => absurd hc (nI_ge (a := j) (b := 1434) (by omega) (by omega))) (fun _ => ?_)
    refine aw_aload_n (npc := 10) rfl dX8_copyAll_9 rfl ?_
    refine aw_iload_n (npc := 11) rfl dX8_copyAll_10 rfl ?_
    refine aw_aload_n (npc := 12) rfl dX8_copyAll_11 rfl ?_
    refine aw_iload_n (npc := 13) rfl dX8_copyAll_12 rfl ?_
    refine aw_iald (npc := 14) (j := j) dX8_copyAll_13 rfl g70 (am_ix_nI (by omega)) hxj ?_
    refine aw_iast (npc := 15) (j := j) dX8_copyAll_14 rfl g71 (am_ix_nI (by omega)) (by omega) rfl ?_
    refine aw_iinc (npc := 18) (v := nI (j + 1)) (L' := [some (.ref 70), some (.ref 71), some (.int (nI (j + 1)))]) dX8_copyAll_15 rfl rfl (nI_1 j) (by decide) rfl rfl ?_
    refine aw_goto (npc := 2) dX8_copyAll_18 (by decide) ?_
    exact ih (j + 1) (by omega) _ _ (by rw [List.length_set]; exact hy) (am_ne (by decide) g70) am_eq (fun h9 q => hq h9 (fun k hk => (q k hk).trans (am_nE hk)))
set_option maxHeartbeats 40000000 in
set_option maxRecDepth 100000 in
theorem p_X8_keep {X : List Int32} {d rc rs : Nat} {h : am_H} {Q : am_Q} (F : f0_X8 h) (hq : ∀ n9 h9, Q (some (.int (sp_keep))) n9 h9) : AW X mX8_keep (d + 14) rc rs 0 [some (.ref 69)] [] 92 h Q := by
  obtain ⟨g69, g70, g71, -, -, -, -, -, -, -, -, -, -, -, -, -, -, -, -, -, -, -, -⟩ := F
  have g70n : h 70 = some (.inl (0, nw 0 0 5 5 5 5)) := g70.trans (congrArg (fun l : List Int32 => (some (.inl (0, l)) : Option am_AC)) (by decide +kernel))
  refine aw_aload_n (npc := 1) rfl dX8_keep_0 rfl ?_
  refine aw_get (npc := 4) dX8_keep_1 rfl kf_X8_9 g69 rfl ?_
  refine aw_aload_n (npc := 5) rfl dX8_keep_4 rfl ?_
  refine aw_get (npc := 8) dX8_keep_5 rfl kf_X8_13 g69 rfl ?_
  refine aw_callS (npc := 11) (N := mX8_copyAll) (mc := 0) (ms := 0) (A := [.ref 70, .ref 71]) (S := []) (L0 := [some (.ref 70), some (.ref 71), none]) dX8_keep_8 rfl km_X8_copyAll kk_X8_273 rfl ⟨rfl, by decide⟩ rfl (Nat.le_of_ble_eq_true rfl) (Nat.zero_add _) (Nat.zero_add _) rfl ?_
  refine aw_iconst (npc := 1) (v := 0) (by decide) dX8_copyAll_0 rfl ?_
  refine aw_istore_n (npc := 2) (L' := [some (.ref 70), some (.ref 71), some (.int 0)]) dX8_copyAll_1 rfl (by decide) rfl rfl ?_
  refine aw_locs (L' := [some (.ref 70), some (.ref 71), some (.int (nI 0))]) rfl ?_
  refine p_copyL (nw 0 0 5 5 5 5) (by decide +kernel) 1434 0 (by omega) _ _ (by rw [List.length_replicate]) g70n g71 (fun h9 fz1 => ?_)
  refine aw_aload_n (npc := 12) rfl dX8_keep_11 rfl ?_
  refine aw_iconst (npc := 13) (v := 1) (by decide) dX8_keep_12 rfl ?_
  refine aw_put (npc := 16) dX8_keep_13 rfl kf_X8_269 ((fz1 69 (by decide)).trans g69) (Nat.le_of_ble_eq_true rfl) am_ok_z1 rfl ?_
  refine aw_aload_n (npc := 17) rfl dX8_keep_16 rfl ?_
  refine aw_get (npc := 20) dX8_keep_17 rfl kf_X8_9 am_eq rfl ?_
  refine aw_iconst (npc := 21) (v := 1) (by decide) dX8_keep_20 rfl ?_
  refine aw_iald (npc := 22) (x := 0) (j := 1) dX8_keep_21 rfl (am_ne (by decide) ((fz1 70 (by decide)).trans g70n)) ⟨by decide, by decide⟩ rfl ?_
  refine aw_iret rfl dX8_keep_22 ?_
  exact fin_m hq (show sp_keep = 0 from (by unfold sp_keep; first | rfl | (simp only [wif_same, ite_self]; done) | (simp only [wif_same, ite_self]; rfl) | (simp [wif_same]; done)))
