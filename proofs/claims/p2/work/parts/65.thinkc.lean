noncomputable def bhV (c fr : Nat) (N : Nat → Int32) (v w : Int32) : Int32 := cI (wi v 0 100 ∧ wi w 0 3) (if w = 0 then goF c fr (-1) (fN v) N 3 else if w = 1 then snum (goF c fr (-1) (fN v) N) else if w = 2 then cI (peace (goF c fr (-1) (fN v) N)) 1 0 else goF c fr (-1) (fN v) N 6) (-1000000001)
set_option maxHeartbeats 4000000 in
set_option maxRecDepth 100000 in
theorem C_behind {X : List Int32} {d rc rs n : Nat} {Q : am_Q} {h : am_H} {N : Nat → Int32} {tx : List Value} {lk mv : Nat → Int32} {ik wc : Int32} {fr c : Nat} {v : Int32} {w : Int32} {tb : TB} (O : OB ik wc h) (F : QR 1 N tx lk mv h) (T2 : TQ h) (G : TT tb h) (hR : RG N fr c) (hC : TC tb tx lk N c) (hq : ∀ v9 h9, v9 = bhV c fr N v w → TQ h9 → TT tb h9 → am_fp (fun k => k < 92 ∧ (k < 13 ∨ 25 ≤ k)) h9 h → Q (some (.int v9)) n h9) : AW X mX7_behind (d + 40) rc rs 0 [some (.ref 0), some (.int v), some (.int w)] [] n h Q := by
  have h8r := hR.2.1
  have h14r := hR.2.2.2.1
  have hK := rg_rk hR
  obtain ⟨N1, tx1, lk1, mv1, F2, hl13⟩ := T2
  refine aw_iload_n (npc := 1) rfl dX7_behind_0 rfl ?_
  refine aw_iconst (npc := 2) (v := 0) (by decide) dX7_behind_1 rfl ?_
  refine aw_bipush (npc := 4) (v := 100) (by decide) dX7_behind_2 rfl ?_
  refine aw_callS (npc := 7) (N := mX7_within) (mc := 0) (ms := 0) (A := [.int v, .int 0, .int 100]) (S := []) (L0 := [some (.int v), some (.int 0), some (.int 100)]) dX7_behind_4 rfl km_X7_within kk_X7_74 rfl ⟨rfl, by decide⟩ rfl (Nat.le_of_ble_eq_true rfl) (Nat.zero_add _) (Nat.zero_add _) rfl ?_
  refine c_X7_within (fun hw1 => ?_) (fun hw1 => ?_)
  · obtain ⟨vn, hvn, evn⟩ := wi_nI (H := 100) (by decide) (by decide) hw1
    subst evn
    have fvn : fN (nI vn) = vn := fN_nI (by omega)
    refine aw_re (S' := [.int 1]) rfl ?_
    refine aw_if_eq (npc := 10) (tgt := 19) dX7_behind_7 rfl (by decide) (fun hc => absurd hc (by decide)) (fun _ => ?_)
    refine aw_iload_n (npc := 11) rfl dX7_behind_10 rfl ?_
    refine aw_iconst (npc := 12) (v := 0) (by decide) dX7_behind_11 rfl ?_
    refine aw_iconst (npc := 13) (v := 3) (by decide) dX7_behind_12 rfl ?_
    refine aw_callS (npc := 16) (N := mX7_within) (mc := 0) (ms := 0) (A := [.int w, .int 0, .int 3]) (S := []) (L0 := [some (.int w), some (.int 0), some (.int 3)]) dX7_behind_13 rfl km_X7_within kk_X7_74 rfl ⟨rfl, by decide⟩ rfl (Nat.le_of_ble_eq_true rfl) (Nat.zero_add _) (Nat.zero_add _) rfl ?_
    refine c_X7_within (fun hw2 => ?_) (fun hw2 => ?_)
    · refine aw_re (S' := [.int 1]) rfl ?_
      refine aw_if_ne (npc := 19) (tgt := 22) dX7_behind_16 rfl (by decide) (fun _ => ?_) (fun hc => absurd hc (by decide))
      refine aw_aload_n (npc := 23) rfl dX7_behind_22 rfl ?_
      refine aw_get (npc := 26) dX7_behind_23 rfl kf_X7_16 O.1 rfl ?_
      refine aw_aload_n (npc := 27) rfl dX7_behind_26 rfl ?_
      refine aw_get (npc := 30) dX7_behind_27 rfl kf_X7_10 O.1 rfl ?_
      refine aw_callV (npc := 33) (N := mX0_becomes) (b := 13) (mc := 0) (ms := 0) (A := [.ref 1]) (S := []) (L0 := [some (.ref 13), some (.ref 1), none]) dX7_behind_30 rfl km_X0_becomes kk_X7_193 F2.1 ⟨by decide, rfl⟩ rfl ⟨rfl, by decide⟩ rfl (Nat.le_of_ble_eq_true rfl) (Nat.zero_add _) (Nat.zero_add _) rfl ?_
      refine g_bec (tb := tb) F2 F G (by omega) (by omega) hl13 hC.1.1 hC.1.2.2.1 (fun hp5 F3 fz4 => ?_)
      have O6 := ob_frame O (fz4 0 (by omega)) (fz4 43 (by omega)) (fz4 44 (by omega))
      have F7 := qr_frame F (fun k h1 h2 => fz4 k (by omega))
      have G8 := tt_frame G (fun k hk => fz4 k (by omega))
      refine aw_aload_n (npc := 34) rfl dX7_behind_33 rfl ?_
      refine aw_get (npc := 37) dX7_behind_34 rfl kf_X7_16 O6.1 rfl ?_
      refine aw_iload_n (npc := 38) rfl dX7_behind_37 rfl ?_
      refine aw_iconst (npc := 39) (v := -1) (by decide) dX7_behind_38 rfl ?_
      refine aw_callV (npc := 42) (N := mX0_runPosts) (b := 13) (mc := 0) (ms := 0) (A := [.int (nI vn), .int (-1)]) (S := []) (L0 := [some (.ref 13), some (.int (nI vn)), some (.int (-1)), none, none]) dX7_behind_39 rfl km_X0_runPosts kk_X7_163 F3.1 ⟨by decide, rfl⟩ rfl ⟨rfl, by decide⟩ rfl (Nat.le_of_ble_eq_true rfl) (Nat.zero_add _) (Nat.zero_add _) rfl ?_
      refine g_run (b := 13) (K := vn) (wo := (-1)) F3 G8 hK.1 hK.2.1 hK.2.2.1 hC.1 (fun f hf => ⟨(hK.2.2.2.2.1 f hf).1, (hK.2.2.2.2.1 f hf).2.1⟩) (by omega) (by omega) (fun N99 s910 m911 h912 hr13 F14 G15 fz16 => ?_)
      have er17 := (run_c vn _ _ _ _ hC hK hr13).1
      rw [er17] at F14
      have fy18 : ∀ k, (k < 92 ∧ (k < 13 ∨ 13 + 12 ≤ k)) → h912 k = _ := fun k hk => fz16 k hk.1 hk.2
      have O19 := ob_frame O6 (fy18 0 (by omega)) (fy18 43 (by omega)) (fy18 44 (by omega))
      have F20 := qr_frame F7 (fun k h1 h2 => fy18 k (by omega))
      refine aw_re (S' := [.int s910]) rfl ?_
      refine aw_pop (npc := 43) rfl dX7_behind_42 rfl ?_
      refine aw_iload_n (npc := 44) rfl dX7_behind_43 rfl ?_
      rcases sw_0_2 w with rfl | rfl | rfl | hs21
      · refine aw_tableIn (npc := 72) dX7_behind_44 (by decide) (by decide) rfl (by decide) ?_
        refine aw_aload_n (npc := 73) rfl dX7_behind_72 rfl ?_
        refine aw_get (npc := 76) dX7_behind_73 rfl kf_X7_16 O19.1 rfl ?_
        refine aw_get (npc := 79) dX7_behind_76 rfl kf_X7_139 F14.1 rfl ?_
        refine aw_iret rfl dX7_behind_79 ?_
        exact hq _ _ (by simp [bhV, cI, hw1, hw2, fvn]) ⟨_, _, _, _, F14, hC.1.1⟩ G15 (am_fpT (fun k (hk : k < 92 ∧ (k < 13 ∨ 25 ≤ k)) => fy18 k (by omega)) (am_fpT (fun k (hk : k < 92 ∧ (k < 13 ∨ 25 ≤ k)) => fz4 k (by omega)) am_fp0))
      · refine aw_tableIn (npc := 80) dX7_behind_44 (by decide) (by decide) rfl (by decide) ?_
        refine aw_aload_n (npc := 81) rfl dX7_behind_80 rfl ?_
        refine aw_get (npc := 84) dX7_behind_81 rfl kf_X7_16 O19.1 rfl ?_
        refine aw_callV (npc := 87) (N := mX0_standsAsNumber) (b := 13) (mc := 0) (ms := 0) (A := []) (S := []) (L0 := [some (.ref 13), none, none]) dX7_behind_84 rfl km_X0_standsAsNumber kk_X7_173 F14.1 ⟨by decide, rfl⟩ rfl ⟨rfl, by decide⟩ rfl (Nat.le_of_ble_eq_true rfl) (Nat.zero_add _) (Nat.zero_add _) rfl ?_
        refine g_snum F14 ?_
        refine aw_re (S' := [.int (snum (goF c fr (-1) vn N))]) rfl ?_
        refine aw_iret rfl dX7_behind_87 ?_
        exact hq _ _ (by simp [bhV, cI, hw1, hw2, fvn]) ⟨_, _, _, _, F14, hC.1.1⟩ G15 (am_fpT (fun k (hk : k < 92 ∧ (k < 13 ∨ 25 ≤ k)) => fy18 k (by omega)) (am_fpT (fun k (hk : k < 92 ∧ (k < 13 ∨ 25 ≤ k)) => fz4 k (by omega)) am_fp0))
      · refine aw_tableIn (npc := 88) dX7_behind_44 (by decide) (by decide) rfl (by decide) ?_
        refine aw_aload_n (npc := 89) rfl dX7_behind_88 rfl ?_
        refine aw_get (npc := 92) dX7_behind_89 rfl kf_X7_16 O19.1 rfl ?_
        refine aw_callV (npc := 95) (N := mX0_isPeace) (b := 13) (mc := 0) (ms := 0) (A := []) (S := []) (L0 := [some (.ref 13)]) dX7_behind_92 rfl km_X0_isPeace kk_X7_169 F14.1 ⟨by decide, rfl⟩ rfl ⟨rfl, by decide⟩ rfl (Nat.le_of_ble_eq_true rfl) (Nat.zero_add _) (Nat.zero_add _) rfl ?_
        refine g_peace F14 (fun hp22 => ?_) (fun hp22 => ?_)
        · refine aw_re (S' := [.int 1]) rfl ?_
          refine aw_if_eq (npc := 98) (tgt := 102) dX7_behind_95 rfl (by decide) (fun hc => absurd hc (by decide)) (fun _ => ?_)
          refine aw_iconst (npc := 99) (v := 1) (by decide) dX7_behind_98 rfl ?_
          refine aw_goto (npc := 103) dX7_behind_99 (by decide) ?_
          refine aw_iret rfl dX7_behind_103 ?_
          exact hq _ _ (by simp [bhV, cI, hw1, hw2, hp22, fvn]) ⟨_, _, _, _, F14, hC.1.1⟩ G15 (am_fpT (fun k (hk : k < 92 ∧ (k < 13 ∨ 25 ≤ k)) => fy18 k (by omega)) (am_fpT (fun k (hk : k < 92 ∧ (k < 13 ∨ 25 ≤ k)) => fz4 k (by omega)) am_fp0))
        · refine aw_re (S' := [.int 0]) rfl ?_
          refine aw_if_eq (npc := 98) (tgt := 102) dX7_behind_95 rfl (by decide) (fun _ => ?_) (fun hc => absurd (by decide) hc)
          refine aw_iconst (npc := 103) (v := 0) (by decide) dX7_behind_102 rfl ?_
          refine aw_iret rfl dX7_behind_103 ?_
          exact hq _ _ (by simp [bhV, cI, hw1, hw2, hp22, fvn]) ⟨_, _, _, _, F14, hC.1.1⟩ G15 (am_fpT (fun k (hk : k < 92 ∧ (k < 13 ∨ 25 ≤ k)) => fy18 k (by omega)) (am_fpT (fun k (hk : k < 92 ∧ (k < 13 ∨ 25 ≤ k)) => fz4 k (by omega)) am_fp0))
      · refine aw_tableOut (npc := 104) dX7_behind_44 hs21.1 (by decide) ?_
        refine aw_aload_n (npc := 105) rfl dX7_behind_104 rfl ?_
        refine aw_get (npc := 108) dX7_behind_105 rfl kf_X7_16 O19.1 rfl ?_
        refine aw_get (npc := 111) dX7_behind_108 rfl kf_X7_176 F14.1 rfl ?_
        refine aw_iret rfl dX7_behind_111 ?_
        exact hq _ _ (by simp [bhV, cI, hw1, hw2, fvn, hs21.2.1, hs21.2.2.1, hs21.2.2.2]) ⟨_, _, _, _, F14, hC.1.1⟩ G15 (am_fpT (fun k (hk : k < 92 ∧ (k < 13 ∨ 25 ≤ k)) => fy18 k (by omega)) (am_fpT (fun k (hk : k < 92 ∧ (k < 13 ∨ 25 ≤ k)) => fz4 k (by omega)) am_fp0))
    · refine aw_re (S' := [.int 0]) rfl ?_
      refine aw_if_ne (npc := 19) (tgt := 22) dX7_behind_16 rfl (by decide) (fun hc => absurd (by decide) hc) (fun _ => ?_)
      refine aw_ldc (npc := 21) kc_X7_78 dX7_behind_19 rfl ?_
      refine aw_iret rfl dX7_behind_21 ?_
      exact hq _ _ (by simp [bhV, cI, hw1, hw2, fvn]) ⟨_, _, _, _, F2, hl13⟩ G am_fp0
  · refine aw_re (S' := [.int 0]) rfl ?_
    refine aw_if_eq (npc := 10) (tgt := 19) dX7_behind_7 rfl (by decide) (fun _ => ?_) (fun hc => absurd (by decide) hc)
    refine aw_ldc (npc := 21) kc_X7_78 dX7_behind_19 rfl ?_
    refine aw_iret rfl dX7_behind_21 ?_
    exact hq _ _ (by simp [bhV, cI, hw1]) ⟨_, _, _, _, F2, hl13⟩ G am_fp0
noncomputable def enV (c fr : Nat) (w : Int32) : Nat → Nat → (Nat → Int32) → Int32
  | 0, _, _ => (-1000000005)
  | m + 1, g, N => cI (peace N) (cI (w = 0) (nI g) 1) (cI (duel N) (cI (w = 0) (nI g) 2) (enV c fr w m (g + 1) (goF c fr (-1) 1 N)))
noncomputable def esV (c fr : Nat) (N : Nat → Int32) (w : Int32) : Int32 := cI (wi w 0 1) (enV c fr w 201 0 N) (-1000000001)
set_option maxHeartbeats 4000000 in
set_option maxRecDepth 100000 in
theorem C_endsL {X : List Int32} {d rc rs n : Nat} {Q : am_Q} {tx : List Value} {lk : Nat → Int32} {ik wc : Int32} {fr c : Nat} {tb : TB} {w : Int32} (hw01 : wi w 0 1) : ∀ (m k : Nat), k + m = 201 → ∀ (NA mv1 : Nat → Int32) (h : am_H), OB ik wc h → QR 13 NA tx lk mv1 h → TT tb h → TC tb tx lk NA c → RK NA fr c → (∀ v9 h9, v9 = enV c fr w m k NA → TQ h9 → TT tb h9 → am_fp (fun k => k < 92 ∧ (k < 13 ∨ 25 ≤ k)) h9 h → Q (some (.int v9)) n h9) → AW X mX7_ends (d + 40) rc rs 25 [some (.ref 0), some (.int w), some (.int (nI k))] [] n h Q := by
  intro m
  induction m with
  | zero =>
    intro k hk NA mv1 h O F2 G hCA hKA hq
    obtain rfl : k = 201 := by omega
    refine aw_iload_n (npc := 26) rfl dX7_ends_25 rfl ?_
    refine aw_sipush (npc := 29) (v := 200) (by decide) dX7_ends_26 rfl ?_
    refine aw_icmp_gt (npc := 32) (tgt := 88) dX7_ends_29 rfl (by decide) (fun _ => ?_) (fun hc => absurd (nI_lt (a := 200) (b := 201) (by omega) (by omega)) hc)
    refine aw_ldc (npc := 90) kc_X7_200 dX7_ends_88 rfl ?_
    refine aw_iret rfl dX7_ends_90 ?_
    exact hq _ _ (by simp [enV, cI]) ⟨_, _, _, _, F2, hCA.1.1⟩ G am_fp0
  | succ m ih =>
    intro k hk NA mv1 h O F2 G hCA hKA hq
    refine aw_iload_n (npc := 26) rfl dX7_ends_25 rfl ?_
    refine aw_sipush (npc := 29) (v := 200) (by decide) dX7_ends_26 rfl ?_
    refine aw_icmp_gt (npc := 32) (tgt := 88) dX7_ends_29 rfl (by decide) (fun hc => absurd hc (nI_nlt (a := 200) (b := k) (by omega) (by omega))) (fun _ => ?_)
    refine aw_aload_n (npc := 33) rfl dX7_ends_32 rfl ?_
    refine aw_get (npc := 36) dX7_ends_33 rfl kf_X7_16 O.1 rfl ?_
    refine aw_callV (npc := 39) (N := mX0_isPeace) (b := 13) (mc := 0) (ms := 0) (A := []) (S := []) (L0 := [some (.ref 13)]) dX7_ends_36 rfl km_X0_isPeace kk_X7_169 F2.1 ⟨by decide, rfl⟩ rfl ⟨rfl, by decide⟩ rfl (Nat.le_of_ble_eq_true rfl) (Nat.zero_add _) (Nat.zero_add _) rfl ?_
    refine g_peace F2 (fun hp2 => ?_) (fun hp2 => ?_)
    · refine aw_re (S' := [.int 1]) rfl ?_
      refine aw_if_eq (npc := 42) (tgt := 52) dX7_ends_39 rfl (by decide) (fun hc => absurd hc (by decide)) (fun _ => ?_)
      refine aw_iload_n (npc := 43) rfl dX7_ends_42 rfl ?_
      refine aw_if_ne (npc := 46) (tgt := 50) dX7_ends_43 rfl (by decide) (fun hc3 => ?_) (fun hc3 => ?_)
      · refine aw_iconst (npc := 51) (v := 1) (by decide) dX7_ends_50 rfl ?_
        refine aw_iret rfl dX7_ends_51 ?_
        exact hq _ _ (by simp [enV, cI, hp2, hc3]) ⟨_, _, _, _, F2, hCA.1.1⟩ G am_fp0
      · refine aw_iload_n (npc := 47) rfl dX7_ends_46 rfl ?_
        refine aw_goto (npc := 51) dX7_ends_47 (by decide) ?_
        refine aw_iret rfl dX7_ends_51 ?_
        exact hq _ _ (by simp [enV, cI, hp2, hc3]) ⟨_, _, _, _, F2, hCA.1.1⟩ G am_fp0
    · refine aw_re (S' := [.int 0]) rfl ?_
      refine aw_if_eq (npc := 42) (tgt := 52) dX7_ends_39 rfl (by decide) (fun _ => ?_) (fun hc => absurd (by decide) hc)
      refine aw_aload_n (npc := 53) rfl dX7_ends_52 rfl ?_
      refine aw_get (npc := 56) dX7_ends_53 rfl kf_X7_16 O.1 rfl ?_
      refine aw_callV (npc := 59) (N := mX0_isDuel) (b := 13) (mc := 0) (ms := 0) (A := []) (S := []) (L0 := [some (.ref 13)]) dX7_ends_56 rfl km_X0_isDuel kk_X7_197 F2.1 ⟨by decide, rfl⟩ rfl ⟨rfl, by decide⟩ rfl (Nat.le_of_ble_eq_true rfl) (Nat.zero_add _) (Nat.zero_add _) rfl ?_
      refine g_duel F2 (fun hd4 => ?_) (fun hd4 => ?_)
      · refine aw_re (S' := [.int 1]) rfl ?_
        refine aw_if_eq (npc := 62) (tgt := 72) dX7_ends_59 rfl (by decide) (fun hc => absurd hc (by decide)) (fun _ => ?_)
        refine aw_iload_n (npc := 63) rfl dX7_ends_62 rfl ?_
        refine aw_if_ne (npc := 66) (tgt := 70) dX7_ends_63 rfl (by decide) (fun hc5 => ?_) (fun hc5 => ?_)
        · refine aw_iconst (npc := 71) (v := 2) (by decide) dX7_ends_70 rfl ?_
          refine aw_iret rfl dX7_ends_71 ?_
          exact hq _ _ (by simp [enV, cI, hp2, hd4, hc5]) ⟨_, _, _, _, F2, hCA.1.1⟩ G am_fp0
        · refine aw_iload_n (npc := 67) rfl dX7_ends_66 rfl ?_
          refine aw_goto (npc := 71) dX7_ends_67 (by decide) ?_
          refine aw_iret rfl dX7_ends_71 ?_
          exact hq _ _ (by simp [enV, cI, hp2, hd4, hc5]) ⟨_, _, _, _, F2, hCA.1.1⟩ G am_fp0
      · refine aw_re (S' := [.int 0]) rfl ?_
        refine aw_if_eq (npc := 62) (tgt := 72) dX7_ends_59 rfl (by decide) (fun _ => ?_) (fun hc => absurd (by decide) hc)
        refine aw_aload_n (npc := 73) rfl dX7_ends_72 rfl ?_
        refine aw_get (npc := 76) dX7_ends_73 rfl kf_X7_16 O.1 rfl ?_
        refine aw_iconst (npc := 77) (v := 1) (by decide) dX7_ends_76 rfl ?_
        refine aw_iconst (npc := 78) (v := -1) (by decide) dX7_ends_77 rfl ?_
        refine aw_callV (npc := 81) (N := mX0_runPosts) (b := 13) (mc := 0) (ms := 0) (A := [.int 1, .int (-1)]) (S := []) (L0 := [some (.ref 13), some (.int 1), some (.int (-1)), none, none]) dX7_ends_78 rfl km_X0_runPosts kk_X7_163 F2.1 ⟨by decide, rfl⟩ rfl ⟨rfl, by decide⟩ rfl (Nat.le_of_ble_eq_true rfl) (Nat.zero_add _) (Nat.zero_add _) rfl ?_
        refine g_run (b := 13) (K := 1) (wo := (-1)) F2 G hKA.1 hKA.2.1 hKA.2.2.1 hCA.1 (fun f hf => ⟨(hKA.2.2.2.2.1 f hf).1, (hKA.2.2.2.2.1 f hf).2.1⟩) (by omega) (by omega) (fun N96 s97 m98 h99 hr10 F11 G12 fz13 => ?_)
        have er14 := (run_c 1 _ _ _ _ hCA hKA hr10).1
        rw [er14] at F11
        have fy15 : ∀ k, (k < 92 ∧ (k < 13 ∨ 13 + 12 ≤ k)) → h99 k = _ := fun k hk => fz13 k hk.1 hk.2
        have O16 := ob_frame O (fy15 0 (by omega)) (fy15 43 (by omega)) (fy15 44 (by omega))
        refine aw_re (S' := [.int s97]) rfl ?_
        refine aw_pop (npc := 82) rfl dX7_ends_81 rfl ?_
        refine aw_iinc (npc := 85) (v := nI (k + 1)) (L' := [some (.ref 0), some (.int w), some (.int (nI (k + 1)))]) dX7_ends_82 rfl rfl (nI_1 _) (by decide) rfl rfl ?_
        refine aw_goto (npc := 25) dX7_ends_85 (by decide) ?_
        refine ih (k + 1) (by omega) _ _ _ O16 F11 G12 (tc_go hKA.2.1 hCA) (rk_go _ _ hKA) (fun v9 h9 e9 T9 G9 f9 => hq v9 h9 ?_ T9 G9 (am_fpT f9 (am_fpT (fun k (hk : k < 92 ∧ (k < 13 ∨ 25 ≤ k)) => fy15 k (by omega)) am_fp0)))
        rw [e9]; simp [enV, cI, hp2, hd4]
set_option maxHeartbeats 4000000 in
set_option maxRecDepth 100000 in
theorem C_ends {X : List Int32} {d rc rs n : Nat} {Q : am_Q} {h : am_H} {N : Nat → Int32} {tx : List Value} {lk mv : Nat → Int32} {ik wc : Int32} {fr c : Nat} {w : Int32} {tb : TB} (O : OB ik wc h) (F : QR 1 N tx lk mv h) (T2 : TQ h) (G : TT tb h) (hR : RG N fr c) (hC : TC tb tx lk N c) (hq : ∀ v9 h9, v9 = esV c fr N w → TQ h9 → TT tb h9 → am_fp (fun k => k < 92 ∧ (k < 13 ∨ 25 ≤ k)) h9 h → Q (some (.int v9)) n h9) : AW X mX7_ends (d + 40) rc rs 0 [some (.ref 0), some (.int w), none] [] n h Q := by
  have h8r := hR.2.1
  have h14r := hR.2.2.2.1
  have hK := rg_rk hR
  obtain ⟨N1, tx1, lk1, mv1, F2, hl13⟩ := T2
  refine aw_iload_n (npc := 1) rfl dX7_ends_0 rfl ?_
  refine aw_iconst (npc := 2) (v := 0) (by decide) dX7_ends_1 rfl ?_
  refine aw_iconst (npc := 3) (v := 1) (by decide) dX7_ends_2 rfl ?_
  refine aw_callS (npc := 6) (N := mX7_within) (mc := 0) (ms := 0) (A := [.int w, .int 0, .int 1]) (S := []) (L0 := [some (.int w), some (.int 0), some (.int 1)]) dX7_ends_3 rfl km_X7_within kk_X7_74 rfl ⟨rfl, by decide⟩ rfl (Nat.le_of_ble_eq_true rfl) (Nat.zero_add _) (Nat.zero_add _) rfl ?_
  refine c_X7_within (fun hw1 => ?_) (fun hw1 => ?_)
  · refine aw_re (S' := [.int 1]) rfl ?_
    refine aw_if_ne (npc := 9) (tgt := 12) dX7_ends_6 rfl (by decide) (fun _ => ?_) (fun hc => absurd hc (by decide))
    refine aw_aload_n (npc := 13) rfl dX7_ends_12 rfl ?_
    refine aw_get (npc := 16) dX7_ends_13 rfl kf_X7_16 O.1 rfl ?_
    refine aw_aload_n (npc := 17) rfl dX7_ends_16 rfl ?_
    refine aw_get (npc := 20) dX7_ends_17 rfl kf_X7_10 O.1 rfl ?_
    refine aw_callV (npc := 23) (N := mX0_becomes) (b := 13) (mc := 0) (ms := 0) (A := [.ref 1]) (S := []) (L0 := [some (.ref 13), some (.ref 1), none]) dX7_ends_20 rfl km_X0_becomes kk_X7_193 F2.1 ⟨by decide, rfl⟩ rfl ⟨rfl, by decide⟩ rfl (Nat.le_of_ble_eq_true rfl) (Nat.zero_add _) (Nat.zero_add _) rfl ?_
    refine g_bec (tb := tb) F2 F G (by omega) (by omega) hl13 hC.1.1 hC.1.2.2.1 (fun hp4 F2 fz3 => ?_)
    have O5 := ob_frame O (fz3 0 (by omega)) (fz3 43 (by omega)) (fz3 44 (by omega))
    have F6 := qr_frame F (fun k h1 h2 => fz3 k (by omega))
    have G7 := tt_frame G (fun k hk => fz3 k (by omega))
    refine aw_iconst (npc := 24) (v := 0) (by decide) dX7_ends_23 rfl ?_
    refine aw_istore_n (npc := 25) (L' := [some (.ref 0), some (.int w), some (.int 0)]) dX7_ends_24 rfl (by decide) rfl rfl ?_
    refine aw_locs (L' := [some (.ref 0), some (.int w), some (.int (nI 0))]) rfl ?_
    refine C_endsL hw1 201 0 (by omega) _ _ _ O5 F2 G7 hC hK (fun v9 h9 e9 T9 G9 f9 => hq v9 h9 ?_ T9 G9 (am_fpT f9 (am_fpT (fun k (hk : k < 92 ∧ (k < 13 ∨ 25 ≤ k)) => fz3 k (by omega)) am_fp0)))
    rw [e9]; simp [esV, cI, hw1]
  · refine aw_re (S' := [.int 0]) rfl ?_
    refine aw_if_ne (npc := 9) (tgt := 12) dX7_ends_6 rfl (by decide) (fun hc => absurd (by decide) hc) (fun _ => ?_)
    refine aw_ldc (npc := 11) kc_X7_78 dX7_ends_9 rfl ?_
    refine aw_iret rfl dX7_ends_11 ?_
    exact hq _ _ (by simp [esV, cI, hw1]) ⟨_, _, _, _, F2, hl13⟩ G am_fp0
set_option maxHeartbeats 4000000 in
set_option maxRecDepth 100000 in
theorem c_pw {X : List Int32} {d rc rs n : Nat} {Q : am_Q} {h : am_H} {N : Nat → Int32} {tx : List Value} {lk mv : Nat → Int32} {ik wc : Int32} {fr c : Nat} {fo : Int32} {K : Nat} {tb : TB} (O : OB ik wc h) (F : QR 1 N tx lk mv h) (T2 : TQ h) (G : TT tb h) (hR : RG N fr c) (hC : TC tb tx lk N c) (hK60 : K < 1000) (k1 : peace (goF c fr fo K N) → ∀ h9, TQ h9 → TT tb h9 → am_fp (fun k => k < 92 ∧ (k < 13 ∨ 25 ≤ k)) h9 h → Q (some (.int 1)) n h9) (k0 : ¬ peace (goF c fr fo K N) → ∀ h9, TQ h9 → TT tb h9 → am_fp (fun k => k < 92 ∧ (k < 13 ∨ 25 ≤ k)) h9 h → Q (some (.int 0)) n h9) : AW X mX7_peaceWithout (d + 30) rc rs 0 [some (.ref 0), some (.int fo), some (.int (nI K))] [] n h Q := by
  have h8r := hR.2.1
  have h14r := hR.2.2.2.1
  have hK := rg_rk hR
  obtain ⟨N1, tx1, lk1, mv1, F2, hl13⟩ := T2
  refine aw_aload_n (npc := 1) rfl dX7_peaceWithout_0 rfl ?_
  refine aw_get (npc := 4) dX7_peaceWithout_1 rfl kf_X7_16 O.1 rfl ?_
  refine aw_aload_n (npc := 5) rfl dX7_peaceWithout_4 rfl ?_
  refine aw_get (npc := 8) dX7_peaceWithout_5 rfl kf_X7_10 O.1 rfl ?_
  refine aw_callV (npc := 11) (N := mX0_becomes) (b := 13) (mc := 0) (ms := 0) (A := [.ref 1]) (S := []) (L0 := [some (.ref 13), some (.ref 1), none]) dX7_peaceWithout_8 rfl km_X0_becomes kk_X7_193 F2.1 ⟨by decide, rfl⟩ rfl ⟨rfl, by decide⟩ rfl (Nat.le_of_ble_eq_true rfl) (Nat.zero_add _) (Nat.zero_add _) rfl ?_
  refine g_bec (tb := tb) F2 F G (by omega) (by omega) hl13 hC.1.1 hC.1.2.2.1 (fun hp3 F1 fz2 => ?_)
  have O4 := ob_frame O (fz2 0 (by omega)) (fz2 43 (by omega)) (fz2 44 (by omega))
  have F5 := qr_frame F (fun k h1 h2 => fz2 k (by omega))
  have G6 := tt_frame G (fun k hk => fz2 k (by omega))
  refine aw_aload_n (npc := 12) rfl dX7_peaceWithout_11 rfl ?_
  refine aw_get (npc := 15) dX7_peaceWithout_12 rfl kf_X7_16 O4.1 rfl ?_
  refine aw_iload_n (npc := 16) rfl dX7_peaceWithout_15 rfl ?_
  refine aw_iload_n (npc := 17) rfl dX7_peaceWithout_16 rfl ?_
  refine aw_callV (npc := 20) (N := mX0_runPosts) (b := 13) (mc := 0) (ms := 0) (A := [.int (nI K), .int fo]) (S := []) (L0 := [some (.ref 13), some (.int (nI K)), some (.int fo), none, none]) dX7_peaceWithout_17 rfl km_X0_runPosts kk_X7_163 F1.1 ⟨by decide, rfl⟩ rfl ⟨rfl, by decide⟩ rfl (Nat.le_of_ble_eq_true rfl) (Nat.zero_add _) (Nat.zero_add _) rfl ?_
  refine g_run (b := 13) (K := K) (wo := fo) F1 G6 hK.1 hK.2.1 hK.2.2.1 hC.1 (fun f hf => ⟨(hK.2.2.2.2.1 f hf).1, (hK.2.2.2.2.1 f hf).2.1⟩) (by omega) (by omega) (fun N97 s98 m99 h910 hr11 F12 G13 fz14 => ?_)
  have er15 := (run_c K _ _ _ _ hC hK hr11).1
  rw [er15] at F12
  have fy16 : ∀ k, (k < 92 ∧ (k < 13 ∨ 13 + 12 ≤ k)) → h910 k = _ := fun k hk => fz14 k hk.1 hk.2
  have O17 := ob_frame O4 (fy16 0 (by omega)) (fy16 43 (by omega)) (fy16 44 (by omega))
  have F18 := qr_frame F5 (fun k h1 h2 => fy16 k (by omega))
  refine aw_re (S' := [.int s98]) rfl ?_
  refine aw_pop (npc := 21) rfl dX7_peaceWithout_20 rfl ?_
  refine aw_aload_n (npc := 22) rfl dX7_peaceWithout_21 rfl ?_
  refine aw_get (npc := 25) dX7_peaceWithout_22 rfl kf_X7_16 O17.1 rfl ?_
  refine aw_callV (npc := 28) (N := mX0_isPeace) (b := 13) (mc := 0) (ms := 0) (A := []) (S := []) (L0 := [some (.ref 13)]) dX7_peaceWithout_25 rfl km_X0_isPeace kk_X7_169 F12.1 ⟨by decide, rfl⟩ rfl ⟨rfl, by decide⟩ rfl (Nat.le_of_ble_eq_true rfl) (Nat.zero_add _) (Nat.zero_add _) rfl ?_
  refine g_peace F12 (fun hp19 => ?_) (fun hp19 => ?_)
  · refine aw_re (S' := [.int 1]) rfl ?_
    refine aw_zret rfl rfl dX7_peaceWithout_28 ?_
    exact k1 hp19 _ ⟨_, _, _, _, F12, hC.1.1⟩ G13 (am_fpT (fun k (hk : k < 92 ∧ (k < 13 ∨ 25 ≤ k)) => fy16 k (by omega)) (am_fpT (fun k (hk : k < 92 ∧ (k < 13 ∨ 25 ≤ k)) => fz2 k (by omega)) am_fp0))
  · refine aw_re (S' := [.int 0]) rfl ?_
    refine aw_zret rfl rfl dX7_peaceWithout_28 ?_
    exact k0 hp19 _ ⟨_, _, _, _, F12, hC.1.1⟩ G13 (am_fpT (fun k (hk : k < 92 ∧ (k < 13 ∨ 25 ≤ k)) => fy16 k (by omega)) (am_fpT (fun k (hk : k < 92 ∧ (k < 13 ∨ 25 ≤ k)) => fz2 k (by omega)) am_fp0))
noncomputable def hlM (c fr K : Nat) (N : Nat → Int32) : Nat → Nat → Int32 → Int32
  | 0, _, s => s
  | m + 1, i, s => hlM c fr K N m (i + 1) (cI (peace (goF c fr (nI i) K N)) (s ||| (1 <<< (nI i &&& 31))) s)
noncomputable def heV (c fr : Nat) (N : Nat → Int32) (v : Int32) : Int32 := cI (wi v 1 60) (cI (peace (goF c fr (-1) (fN v) N)) 0 (hlM c fr (fN v) N fr 0 0)) (-1000000001)
set_option maxHeartbeats 4000000 in
set_option maxRecDepth 100000 in
theorem C_heldL {X : List Int32} {d rc rs n : Nat} {Q : am_Q} {tx : List Value} {lk : Nat → Int32} {ik wc : Int32} {fr c : Nat} {tb : TB} {N mv : Nat → Int32} {K : Nat} (hK60 : K < 1000) (hR : RG N fr c) (hC : TC tb tx lk N c) : ∀ (m i : Nat), i + m = fr → ∀ (s : Int32) (h : am_H), OB ik wc h → QR 1 N tx lk mv h → TQ h → TT tb h → (∀ v9 h9, v9 = hlM c fr K N m i s → TQ h9 → TT tb h9 → am_fp (fun k => k < 92 ∧ (k < 13 ∨ 25 ≤ k)) h9 h → Q (some (.int v9)) n h9) → AW X mX7_held (d + 40) rc rs 28 [some (.ref 0), some (.int (nI K)), some (.int s), some (.int (nI i))] [] n h Q := by
  have h8r := hR.2.1
  intro m
  induction m with
  | zero =>
    intro i hi s h O F T2 G hq
    obtain rfl : i = fr := by omega
    refine aw_iload_n (npc := 29) rfl dX7_held_28 rfl ?_
    refine aw_aload_n (npc := 30) rfl dX7_held_29 rfl ?_
    refine aw_get (npc := 33) dX7_held_30 rfl kf_X7_10 O.1 rfl ?_
    refine aw_get (npc := 36) dX7_held_33 rfl kf_X7_79 F.1 rfl ?_
    refine aw_top (y := nI i) (hR.1) ?_
    refine aw_icmp_ge (npc := 39) (tgt := 60) dX7_held_36 rfl (by decide) (fun _ => ?_) (fun hc => absurd (nI_le (a := i) (b := i) (by omega) (by omega)) hc)
    refine aw_iload_n (npc := 61) rfl dX7_held_60 rfl ?_
    refine aw_iret rfl dX7_held_61 ?_
    exact hq _ _ rfl T2 G am_fp0
  | succ m ih =>
    intro i hi s h O F T2 G hq
    refine aw_iload_n (npc := 29) rfl dX7_held_28 rfl ?_
    refine aw_aload_n (npc := 30) rfl dX7_held_29 rfl ?_
    refine aw_get (npc := 33) dX7_held_30 rfl kf_X7_10 O.1 rfl ?_
    refine aw_get (npc := 36) dX7_held_33 rfl kf_X7_79 F.1 rfl ?_
    refine aw_top (y := nI fr) (hR.1) ?_
    refine aw_icmp_ge (npc := 39) (tgt := 60) dX7_held_36 rfl (by decide) (fun hc => absurd hc (nI_ge (a := i) (b := fr) (by omega) (by omega))) (fun _ => ?_)
    refine aw_aload_n (npc := 40) rfl dX7_held_39 rfl ?_
    refine aw_iload_n (npc := 41) rfl dX7_held_40 rfl ?_
    refine aw_iload_n (npc := 42) rfl dX7_held_41 rfl ?_
    refine aw_callV (npc := 45) (N := mX7_peaceWithout) (b := 0) (mc := 0) (ms := 0) (A := [.int (nI i), .int (nI K)]) (S := []) (L0 := [some (.ref 0), some (.int (nI i)), some (.int (nI K))]) dX7_held_42 rfl km_X7_peaceWithout kk_X7_201 O.1 ⟨by decide, rfl⟩ rfl ⟨rfl, by decide⟩ rfl (Nat.le_of_ble_eq_true rfl) (Nat.zero_add _) (Nat.zero_add _) rfl ?_
    refine c_pw (fo := (nI i)) (K := K) O F T2 G hR hC (by omega) (fun hp2 h93 T4 G5 fz6 => ?_) (fun hp2 h93 T4 G5 fz6 => ?_)
    · have fyfz6 : ∀ k, (k < 92 ∧ (k < 13 ∨ 25 ≤ k)) → h93 k = _ := fun k hk => fz6 k hk
      have O7 := ob_frame O (fyfz6 0 (by omega)) (fyfz6 43 (by omega)) (fyfz6 44 (by omega))
      have F8 := qr_frame F (fun k h1 h2 => fyfz6 k (by omega))
      refine aw_re (S' := [.int 1]) rfl ?_
      refine aw_if_eq (npc := 48) (tgt := 54) dX7_held_45 rfl (by decide) (fun hc => absurd hc (by decide)) (fun _ => ?_)
      refine aw_iload_n (npc := 49) rfl dX7_held_48 rfl ?_
      refine aw_iconst (npc := 50) (v := 1) (by decide) dX7_held_49 rfl ?_
      refine aw_iload_n (npc := 51) rfl dX7_held_50 rfl ?_
      refine aw_ishl (npc := 52) dX7_held_51 rfl ?_
      refine aw_ior (npc := 53) dX7_held_52 rfl ?_
      refine aw_istore_n (npc := 54) (L' := [some (.ref 0), some (.int (nI K)), some (.int (s ||| (1 <<< ((nI i) &&& 31)))), some (.int (nI i))]) dX7_held_53 rfl (by decide) rfl rfl ?_
      refine aw_iinc (npc := 57) (v := nI (i + 1)) (L' := [some (.ref 0), some (.int (nI K)), some (.int (s ||| (1 <<< ((nI i) &&& 31)))), some (.int (nI (i + 1)))]) dX7_held_54 rfl rfl (nI_1 _) (by decide) rfl rfl ?_
      refine aw_goto (npc := 28) dX7_held_57 (by decide) ?_
      refine ih (i + 1) (by omega) (s ||| (1 <<< ((nI i) &&& 31))) _ O7 F8 T4 G5 (fun v9 h9 e9 T9 G9 f9 => hq v9 h9 ?_ T9 G9 (am_fpT f9 (am_fpT (fun k (hk : k < 92 ∧ (k < 13 ∨ 25 ≤ k)) => fyfz6 k (by omega)) am_fp0)))
      rw [e9]; simp [hlM, cI, hp2]
    · have fyfz6 : ∀ k, (k < 92 ∧ (k < 13 ∨ 25 ≤ k)) → h93 k = _ := fun k hk => fz6 k hk
      have O9 := ob_frame O (fyfz6 0 (by omega)) (fyfz6 43 (by omega)) (fyfz6 44 (by omega))
      have F10 := qr_frame F (fun k h1 h2 => fyfz6 k (by omega))
      refine aw_re (S' := [.int 0]) rfl ?_
      refine aw_if_eq (npc := 48) (tgt := 54) dX7_held_45 rfl (by decide) (fun _ => ?_) (fun hc => absurd (by decide) hc)
      refine aw_iinc (npc := 57) (v := nI (i + 1)) (L' := [some (.ref 0), some (.int (nI K)), some (.int s), some (.int (nI (i + 1)))]) dX7_held_54 rfl rfl (nI_1 _) (by decide) rfl rfl ?_
      refine aw_goto (npc := 28) dX7_held_57 (by decide) ?_
      refine ih (i + 1) (by omega) s _ O9 F10 T4 G5 (fun v9 h9 e9 T9 G9 f9 => hq v9 h9 ?_ T9 G9 (am_fpT f9 (am_fpT (fun k (hk : k < 92 ∧ (k < 13 ∨ 25 ≤ k)) => fyfz6 k (by omega)) am_fp0)))
      rw [e9]; simp [hlM, cI, hp2]
set_option maxHeartbeats 4000000 in
set_option maxRecDepth 100000 in
theorem C_held {X : List Int32} {d rc rs n : Nat} {Q : am_Q} {h : am_H} {N : Nat → Int32} {tx : List Value} {lk mv : Nat → Int32} {ik wc : Int32} {fr c : Nat} {v : Int32} {tb : TB} (O : OB ik wc h) (F : QR 1 N tx lk mv h) (T2 : TQ h) (G : TT tb h) (hR : RG N fr c) (hC : TC tb tx lk N c) (hq : ∀ v9 h9, v9 = heV c fr N v → TQ h9 → TT tb h9 → am_fp (fun k => k < 92 ∧ (k < 13 ∨ 25 ≤ k)) h9 h → Q (some (.int v9)) n h9) : AW X mX7_held (d + 40) rc rs 0 [some (.ref 0), some (.int v), none, none] [] n h Q := by
  have h8r := hR.2.1
  have h14r := hR.2.2.2.1
  refine aw_iload_n (npc := 1) rfl dX7_held_0 rfl ?_
  refine aw_iconst (npc := 2) (v := 1) (by decide) dX7_held_1 rfl ?_
  refine aw_bipush (npc := 4) (v := 60) (by decide) dX7_held_2 rfl ?_
  refine aw_callS (npc := 7) (N := mX7_within) (mc := 0) (ms := 0) (A := [.int v, .int 1, .int 60]) (S := []) (L0 := [some (.int v), some (.int 1), some (.int 60)]) dX7_held_4 rfl km_X7_within kk_X7_74 rfl ⟨rfl, by decide⟩ rfl (Nat.le_of_ble_eq_true rfl) (Nat.zero_add _) (Nat.zero_add _) rfl ?_
  refine c_X7_within (fun hw1 => ?_) (fun hw1 => ?_)
  · obtain ⟨vn, hvn, evn⟩ := wi_nI (H := 60) (by decide) (by decide) hw1
    subst evn
    have fvn : fN (nI vn) = vn := fN_nI (by omega)
    refine aw_re (S' := [.int 1]) rfl ?_
    refine aw_if_ne (npc := 10) (tgt := 13) dX7_held_7 rfl (by decide) (fun _ => ?_) (fun hc => absurd hc (by decide))
    refine aw_aload_n (npc := 14) rfl dX7_held_13 rfl ?_
    refine aw_iconst (npc := 15) (v := -1) (by decide) dX7_held_14 rfl ?_
    refine aw_iload_n (npc := 16) rfl dX7_held_15 rfl ?_
    refine aw_callV (npc := 19) (N := mX7_peaceWithout) (b := 0) (mc := 0) (ms := 0) (A := [.int (-1), .int (nI vn)]) (S := []) (L0 := [some (.ref 0), some (.int (-1)), some (.int (nI vn))]) dX7_held_16 rfl km_X7_peaceWithout kk_X7_201 O.1 ⟨by decide, rfl⟩ rfl ⟨rfl, by decide⟩ rfl (Nat.le_of_ble_eq_true rfl) (Nat.zero_add _) (Nat.zero_add _) rfl ?_
    refine c_pw (fo := (-1)) (K := vn) O F T2 G hR hC (by omega) (fun hp2 h93 T4 G5 fz6 => ?_) (fun hp2 h93 T4 G5 fz6 => ?_)
    · have fyfz6 : ∀ k, (k < 92 ∧ (k < 13 ∨ 25 ≤ k)) → h93 k = _ := fun k hk => fz6 k hk
      have O7 := ob_frame O (fyfz6 0 (by omega)) (fyfz6 43 (by omega)) (fyfz6 44 (by omega))
      have F8 := qr_frame F (fun k h1 h2 => fyfz6 k (by omega))
      refine aw_re (S' := [.int 1]) rfl ?_
      refine aw_if_eq (npc := 22) (tgt := 24) dX7_held_19 rfl (by decide) (fun hc => absurd hc (by decide)) (fun _ => ?_)
      refine aw_iconst (npc := 23) (v := 0) (by decide) dX7_held_22 rfl ?_
      refine aw_iret rfl dX7_held_23 ?_
      exact hq _ _ (by simp [heV, cI, hw1, hp2, fvn]) T4 G5 (am_fpT (fun k (hk : k < 92 ∧ (k < 13 ∨ 25 ≤ k)) => fyfz6 k (by omega)) am_fp0)
    · have fyfz6 : ∀ k, (k < 92 ∧ (k < 13 ∨ 25 ≤ k)) → h93 k = _ := fun k hk => fz6 k hk
      have O9 := ob_frame O (fyfz6 0 (by omega)) (fyfz6 43 (by omega)) (fyfz6 44 (by omega))
      have F10 := qr_frame F (fun k h1 h2 => fyfz6 k (by omega))
      refine aw_re (S' := [.int 0]) rfl ?_
      refine aw_if_eq (npc := 22) (tgt := 24) dX7_held_19 rfl (by decide) (fun _ => ?_) (fun hc => absurd (by decide) hc)
      refine aw_iconst (npc := 25) (v := 0) (by decide) dX7_held_24 rfl ?_
      refine aw_istore_n (npc := 26) (L' := [some (.ref 0), some (.int (nI vn)), some (.int 0), none]) dX7_held_25 rfl (by decide) rfl rfl ?_
      refine aw_iconst (npc := 27) (v := 0) (by decide) dX7_held_26 rfl ?_
      refine aw_istore_n (npc := 28) (L' := [some (.ref 0), some (.int (nI vn)), some (.int 0), some (.int 0)]) dX7_held_27 rfl (by decide) rfl rfl ?_
      refine aw_locs (L' := [some (.ref 0), some (.int (nI vn)), some (.int 0), some (.int (nI 0))]) rfl ?_
      refine C_heldL (K := vn) (by omega) hR hC fr 0 (by omega) 0 _ O9 F10 T4 G5 (fun v9 h9 e9 T9 G9 f9 => hq v9 h9 ?_ T9 G9 (am_fpT f9 (am_fpT (fun k (hk : k < 92 ∧ (k < 13 ∨ 25 ≤ k)) => fyfz6 k (by omega)) am_fp0)))
      rw [e9]; simp [heV, cI, hw1, hp2, fvn]
  · refine aw_re (S' := [.int 0]) rfl ?_
    refine aw_if_ne (npc := 10) (tgt := 13) dX7_held_7 rfl (by decide) (fun hc => absurd (by decide) hc) (fun _ => ?_)
    refine aw_ldc (npc := 12) kc_X7_78 dX7_held_10 rfl ?_
    refine aw_iret rfl dX7_held_12 ?_
    exact hq _ _ (by simp [heV, cI, hw1]) T2 G am_fp0
