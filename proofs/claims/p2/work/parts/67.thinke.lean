noncomputable def ckM (c fr q : Nat) (wt : Nat → Int32) : Nat → Nat → (Nat → Int32) → Int32
  | 0, k, _ => cI (q = 2 * k) 0 (nI (1 + 2 * k))
  | m + 1, k, N => cI (2 * k < q ∧ wt (2 * k) = snum (goF c fr (-1) 1 N)) (cI (2 * k + 1 < q ∧ wt (2 * k + 1) = goF c fr (-1) 1 N 3) (ckM c fr q wt m (k + 1) (goF c fr (-1) 1 N)) (nI (1 + (2 * k + 1)))) (nI (1 + 2 * k))
noncomputable def ckV (c fr q : Nat) (wt NI : Nat → Int32) (ik v : Int32) : Int32 := cI (wi v 1 30) (cI (ik = 0) (-1000000002) (ckM c fr q wt (min (fN v) (9999 - fN (NI 2))) 0 NI)) (-1000000001)
set_option maxHeartbeats 4000000 in
set_option maxRecDepth 100000 in
theorem C_checkL {X : List Int32} {d rc rs n : Nat} {Q : am_Q} {tx : List Value} {lk : Nat → Int32} {ik : Int32} {fr c : Nat} {tb : TB} {wt : Nat → Int32} {K q : Nat} {v1 : Int32} (hK30 : K ≤ 30) (hq60 : q ≤ 60) : ∀ (m k : Nat), k + m = K → ∀ (NA mv1 : Nat → Int32) (v5 : Option Value) (h : am_H), OB ik 0 h → WT wt h → QR 13 NA tx lk mv1 h → TT tb h → TC tb tx lk NA c → RK NA fr c → (∀ v9 h9, v9 = ckM c fr q wt m k NA → OB ik 0 h9 → TQ h9 → TT tb h9 → am_fp (fun k => k ≠ 0 ∧ k < 92 ∧ (k < 13 ∨ 25 ≤ k)) h9 h → Q (some (.int v9)) n h9) → AW X mX7_check (d + 40) rc rs 66 [some (.ref 0), some (.int v1), some (.int (nI q)), some (.int (nI (2 * K))), some (.int (nI (2 * k))), v5] [] n h Q := by
  intro m
  induction m with
  | zero =>
    intro k hk NA mv1 v5 h O Wt F2 G hCA hKA hq
    obtain rfl : k = K := by omega
    refine aw_iload (npc := 68) rfl dX7_check_66 rfl ?_
    refine aw_iload_n (npc := 69) rfl dX7_check_68 rfl ?_
    refine aw_icmp_ge (npc := 72) (tgt := 144) dX7_check_69 rfl (by decide) (fun _ => ?_) (fun hc => absurd (nI_le (a := 2 * k) (b := 2 * k) (by omega) (by omega)) hc)
    refine aw_iload_n (npc := 145) rfl dX7_check_144 rfl ?_
    refine aw_iload_n (npc := 146) rfl dX7_check_145 rfl ?_
    refine aw_icmp_ne (npc := 149) (tgt := 153) dX7_check_146 rfl (by decide) (fun hc2 => ?_) (fun hc2 => ?_)
    · have hc2N : ¬ q = (2 * k) := fun z9q => hc2 ((nI_eq (a := q) (b := (2 * k)) (by omega) (by omega)).mpr z9q)
      refine aw_iconst (npc := 154) (v := 1) (by decide) dX7_check_153 rfl ?_
      refine aw_iload_n (npc := 155) rfl dX7_check_154 rfl ?_
      refine aw_iaddV (npc := 156) (v := nI (1 + (2 * k))) dX7_check_155 rfl (nI_add 1 _) ?_
      refine aw_iret rfl dX7_check_156 ?_
      exact hq _ _ (by simp [ckM, cI, hc2, hc2N]) O ⟨_, _, _, _, F2, hCA.1.1⟩ G am_fp0
    · have hc2N := (nI_eq (a := q) (b := (2 * k)) (by omega) (by omega)).mp hc2
      refine aw_iconst (npc := 150) (v := 0) (by decide) dX7_check_149 rfl ?_
      refine aw_goto (npc := 156) dX7_check_150 (by decide) ?_
      refine aw_iret rfl dX7_check_156 ?_
      exact hq _ _ (by simp [ckM, cI, hc2, hc2N]) O ⟨_, _, _, _, F2, hCA.1.1⟩ G am_fp0
  | succ m ih =>
    intro k hk NA mv1 v5 h O Wt F2 G hCA hKA hq
    refine aw_iload (npc := 68) rfl dX7_check_66 rfl ?_
    refine aw_iload_n (npc := 69) rfl dX7_check_68 rfl ?_
    refine aw_icmp_ge (npc := 72) (tgt := 144) dX7_check_69 rfl (by decide) (fun hc => absurd hc (nI_ge (a := (2 * k)) (b := 2 * K) (by omega) (by omega))) (fun _ => ?_)
    refine aw_iload (npc := 74) rfl dX7_check_72 rfl ?_
    refine aw_iconst (npc := 75) (v := 2) (by decide) dX7_check_74 rfl ?_
    refine aw_iremV (npc := 76) (v := 0) (by decide) dX7_check_75 rfl ((pk_rem (a := (2 * k)) (d := 2) (by omega) (by omega) (by omega)).trans (congrArg nI (show (2 * k) % 2 = 0 by omega))) ?_
    refine aw_if_ne (npc := 79) (tgt := 89) dX7_check_76 rfl (by decide) (fun hc => absurd (by decide) hc) (fun _ => ?_)
    refine aw_aload_n (npc := 80) rfl dX7_check_79 rfl ?_
    refine aw_get (npc := 83) dX7_check_80 rfl kf_X7_16 O.1 rfl ?_
    refine aw_iconst (npc := 84) (v := 1) (by decide) dX7_check_83 rfl ?_
    refine aw_iconst (npc := 85) (v := -1) (by decide) dX7_check_84 rfl ?_
    refine aw_callV (npc := 88) (N := mX0_runPosts) (b := 13) (mc := 0) (ms := 0) (A := [.int 1, .int (-1)]) (S := []) (L0 := [some (.ref 13), some (.int 1), some (.int (-1)), none, none]) dX7_check_85 rfl km_X0_runPosts kk_X7_163 F2.1 ⟨by decide, rfl⟩ rfl ⟨rfl, by decide⟩ rfl (Nat.le_of_ble_eq_true rfl) (Nat.zero_add _) (Nat.zero_add _) rfl ?_
    refine g_run (b := 13) (K := 1) (wo := (-1)) F2 G hKA.1 hKA.2.1 hKA.2.2.1 hCA.1 (fun f hf => ⟨(hKA.2.2.2.2.1 f hf).1, (hKA.2.2.2.2.1 f hf).2.1⟩) (by omega) (by omega) (fun N92 s93 m94 h95 hr6 F7 G8 fz9 => ?_)
    have er10 := (run_c 1 _ _ _ _ hCA hKA hr6).1
    rw [er10] at F7
    have fy11 : ∀ k, (k < 92 ∧ (k < 13 ∨ 13 + 12 ≤ k)) → h95 k = _ := fun k hk => fz9 k hk.1 hk.2
    have O12 := ob_frame O (fy11 0 (by omega)) (fy11 43 (by omega)) (fy11 44 (by omega))
    have Wt13 : WT wt _ := (fy11 45 (by omega)).trans Wt
    refine aw_re (S' := [.int s93]) rfl ?_
    refine aw_pop (npc := 89) rfl dX7_check_88 rfl ?_
    refine aw_iload (npc := 91) rfl dX7_check_89 rfl ?_
    refine aw_iconst (npc := 92) (v := 2) (by decide) dX7_check_91 rfl ?_
    refine aw_iremV (npc := 93) (v := 0) (by decide) dX7_check_92 rfl ((pk_rem (a := (2 * k)) (d := 2) (by omega) (by omega) (by omega)).trans (congrArg nI (show (2 * k) % 2 = 0 by omega))) ?_
    refine aw_if_ne (npc := 96) (tgt := 106) dX7_check_93 rfl (by decide) (fun hc => absurd (by decide) hc) (fun _ => ?_)
    refine aw_aload_n (npc := 97) rfl dX7_check_96 rfl ?_
    refine aw_get (npc := 100) dX7_check_97 rfl kf_X7_16 O12.1 rfl ?_
    refine aw_callV (npc := 103) (N := mX0_standsAsNumber) (b := 13) (mc := 0) (ms := 0) (A := []) (S := []) (L0 := [some (.ref 13), none, none]) dX7_check_100 rfl km_X0_standsAsNumber kk_X7_173 F7.1 ⟨by decide, rfl⟩ rfl ⟨rfl, by decide⟩ rfl (Nat.le_of_ble_eq_true rfl) (Nat.zero_add _) (Nat.zero_add _) rfl ?_
    refine g_snum F7 ?_
    refine aw_re (S' := [.int (snum (goF c fr (-1) 1 NA))]) rfl ?_
    refine aw_goto (npc := 113) dX7_check_103 (by decide) ?_
    refine aw_istore (npc := 115) (L' := [some (.ref 0), some (.int v1), some (.int (nI q)), some (.int (nI (2 * K))), some (.int (nI (2 * k))), some (.int (snum (goF c fr (-1) 1 NA)))]) dX7_check_113 rfl (by decide) rfl rfl ?_
    refine aw_iload (npc := 117) rfl dX7_check_115 rfl ?_
    refine aw_iload_n (npc := 118) rfl dX7_check_117 rfl ?_
    refine aw_icmp_ge (npc := 121) (tgt := 133) dX7_check_118 rfl (by decide) (fun hc14 => ?_) (fun hc14 => ?_)
    · have hc14N := (nI_leI (a := q) (b := (2 * k)) (by omega) (by omega)).mp hc14
      refine aw_iconst (npc := 134) (v := 1) (by decide) dX7_check_133 rfl ?_
      refine aw_iload (npc := 136) rfl dX7_check_134 rfl ?_
      refine aw_iaddV (npc := 137) (v := nI (1 + (2 * k))) dX7_check_136 rfl (nI_add 1 _) ?_
      refine aw_iret rfl dX7_check_137 ?_
      exact hq _ _ (by simp [ckM, cI, hc14, hc14N, Nat.not_lt.mpr hc14N]) O12 ⟨_, _, _, _, F7, hCA.1.1⟩ G8 (am_fpT (fun k (hk : k ≠ 0 ∧ k < 92 ∧ (k < 13 ∨ 25 ≤ k)) => fy11 k (by omega)) am_fp0)
    · have hc14N : ¬ q ≤ (2 * k) := fun z9q => hc14 ((nI_leI (a := q) (b := (2 * k)) (by omega) (by omega)).mpr z9q)
      refine aw_aload_n (npc := 122) rfl dX7_check_121 rfl ?_
      refine aw_get (npc := 125) dX7_check_122 rfl kf_X7_57 O12.1 rfl ?_
      refine aw_iload (npc := 127) rfl dX7_check_125 rfl ?_
      refine aw_iald (npc := 128) (x := wt (2 * k)) (j := (2 * k)) dX7_check_127 rfl Wt13 (am_ix_nI (by omega)) (tl_at (by omega)) ?_
      refine aw_iload (npc := 130) rfl dX7_check_128 rfl ?_
      refine aw_icmp_eq (npc := 133) (tgt := 138) dX7_check_130 rfl (by decide) (fun hc15 => ?_) (fun hc15 => ?_)
      · refine aw_iinc (npc := 141) (v := nI ((2 * k) + 1)) (L' := [some (.ref 0), some (.int v1), some (.int (nI q)), some (.int (nI (2 * K))), some (.int (nI ((2 * k) + 1))), some (.int (snum (goF c fr (-1) 1 NA)))]) dX7_check_138 rfl rfl (nI_1 _) (by decide) rfl rfl ?_
        refine aw_goto (npc := 66) dX7_check_141 (by decide) ?_
        refine aw_iload (npc := 68) rfl dX7_check_66 rfl ?_
        refine aw_iload_n (npc := 69) rfl dX7_check_68 rfl ?_
        refine aw_icmp_ge (npc := 72) (tgt := 144) dX7_check_69 rfl (by decide) (fun hc => absurd hc (nI_ge (a := ((2 * k) + 1)) (b := 2 * K) (by omega) (by omega))) (fun _ => ?_)
        refine aw_iload (npc := 74) rfl dX7_check_72 rfl ?_
        refine aw_iconst (npc := 75) (v := 2) (by decide) dX7_check_74 rfl ?_
        refine aw_iremV (npc := 76) (v := 1) (by decide) dX7_check_75 rfl ((pk_rem (a := ((2 * k) + 1)) (d := 2) (by omega) (by omega) (by omega)).trans (congrArg nI (show ((2 * k) + 1) % 2 = 1 by omega))) ?_
        refine aw_if_ne (npc := 79) (tgt := 89) dX7_check_76 rfl (by decide) (fun _ => ?_) (fun hc => absurd hc (by decide))
        refine aw_iload (npc := 91) rfl dX7_check_89 rfl ?_
        refine aw_iconst (npc := 92) (v := 2) (by decide) dX7_check_91 rfl ?_
        refine aw_iremV (npc := 93) (v := 1) (by decide) dX7_check_92 rfl ((pk_rem (a := ((2 * k) + 1)) (d := 2) (by omega) (by omega) (by omega)).trans (congrArg nI (show ((2 * k) + 1) % 2 = 1 by omega))) ?_
        refine aw_if_ne (npc := 96) (tgt := 106) dX7_check_93 rfl (by decide) (fun _ => ?_) (fun hc => absurd hc (by decide))
        refine aw_aload_n (npc := 107) rfl dX7_check_106 rfl ?_
        refine aw_get (npc := 110) dX7_check_107 rfl kf_X7_16 O12.1 rfl ?_
        refine aw_get (npc := 113) dX7_check_110 rfl kf_X7_139 F7.1 rfl ?_
        refine aw_istore (npc := 115) (L' := [some (.ref 0), some (.int v1), some (.int (nI q)), some (.int (nI (2 * K))), some (.int (nI ((2 * k) + 1))), some (.int ((goF c fr (-1) 1 NA) 3))]) dX7_check_113 rfl (by decide) rfl rfl ?_
        refine aw_iload (npc := 117) rfl dX7_check_115 rfl ?_
        refine aw_iload_n (npc := 118) rfl dX7_check_117 rfl ?_
        refine aw_icmp_ge (npc := 121) (tgt := 133) dX7_check_118 rfl (by decide) (fun hc17 => ?_) (fun hc17 => ?_)
        · have hc17N := (nI_leI (a := q) (b := ((2 * k) + 1)) (by omega) (by omega)).mp hc17
          refine aw_iconst (npc := 134) (v := 1) (by decide) dX7_check_133 rfl ?_
          refine aw_iload (npc := 136) rfl dX7_check_134 rfl ?_
          refine aw_iaddV (npc := 137) (v := nI (1 + ((2 * k) + 1))) dX7_check_136 rfl (nI_add 1 _) ?_
          refine aw_iret rfl dX7_check_137 ?_
          exact hq _ _ (by simp [ckM, cI, hc14, hc14N, hc15, hc17, hc17N, Nat.lt_of_not_le hc14N, Nat.not_lt.mpr hc17N]) O12 ⟨_, _, _, _, F7, hCA.1.1⟩ G8 (am_fpT (fun k (hk : k ≠ 0 ∧ k < 92 ∧ (k < 13 ∨ 25 ≤ k)) => fy11 k (by omega)) am_fp0)
        · have hc17N : ¬ q ≤ ((2 * k) + 1) := fun z9q => hc17 ((nI_leI (a := q) (b := ((2 * k) + 1)) (by omega) (by omega)).mpr z9q)
          refine aw_aload_n (npc := 122) rfl dX7_check_121 rfl ?_
          refine aw_get (npc := 125) dX7_check_122 rfl kf_X7_57 O12.1 rfl ?_
          refine aw_iload (npc := 127) rfl dX7_check_125 rfl ?_
          refine aw_iald (npc := 128) (x := wt ((2 * k) + 1)) (j := ((2 * k) + 1)) dX7_check_127 rfl Wt13 (am_ix_nI (by omega)) (tl_at (by omega)) ?_
          refine aw_iload (npc := 130) rfl dX7_check_128 rfl ?_
          refine aw_icmp_eq (npc := 133) (tgt := 138) dX7_check_130 rfl (by decide) (fun hc18 => ?_) (fun hc18 => ?_)
          · refine aw_iinc (npc := 141) (v := nI (((2 * k) + 1) + 1)) (L' := [some (.ref 0), some (.int v1), some (.int (nI q)), some (.int (nI (2 * K))), some (.int (nI (((2 * k) + 1) + 1))), some (.int ((goF c fr (-1) 1 NA) 3))]) dX7_check_138 rfl rfl (nI_1 _) (by decide) rfl rfl ?_
            refine aw_goto (npc := 66) dX7_check_141 (by decide) ?_
            refine aw_locs (L' := [some (.ref 0), some (.int v1), some (.int (nI q)), some (.int (nI (2 * K))), some (.int (nI (2 * (k + 1)))), some (.int ((goF c fr (-1) 1 NA) 3))]) rfl ?_
            refine ih (k + 1) (by omega) _ _ _ _ O12 Wt13 F7 G8 (tc_go hKA.2.1 hCA) (rk_go _ _ hKA) (fun v9 h9 e9 O9 T9 G9 f9 => hq v9 h9 ?_ O9 T9 G9 (am_fpT f9 (am_fpT (fun k (hk : k ≠ 0 ∧ k < 92 ∧ (k < 13 ∨ 25 ≤ k)) => fy11 k (by omega)) am_fp0)))
            rw [e9]; simp [ckM, cI, hc14, hc14N, hc15, hc17, hc17N, hc18, Nat.lt_of_not_le hc14N, Nat.lt_of_not_le hc17N]
          · refine aw_iconst (npc := 134) (v := 1) (by decide) dX7_check_133 rfl ?_
            refine aw_iload (npc := 136) rfl dX7_check_134 rfl ?_
            refine aw_iaddV (npc := 137) (v := nI (1 + ((2 * k) + 1))) dX7_check_136 rfl (nI_add 1 _) ?_
            refine aw_iret rfl dX7_check_137 ?_
            exact hq _ _ (by simp [ckM, cI, hc14, hc14N, hc15, hc17, hc17N, hc18, Nat.lt_of_not_le hc14N, Nat.lt_of_not_le hc17N]) O12 ⟨_, _, _, _, F7, hCA.1.1⟩ G8 (am_fpT (fun k (hk : k ≠ 0 ∧ k < 92 ∧ (k < 13 ∨ 25 ≤ k)) => fy11 k (by omega)) am_fp0)
      · refine aw_iconst (npc := 134) (v := 1) (by decide) dX7_check_133 rfl ?_
        refine aw_iload (npc := 136) rfl dX7_check_134 rfl ?_
        refine aw_iaddV (npc := 137) (v := nI (1 + (2 * k))) dX7_check_136 rfl (nI_add 1 _) ?_
        refine aw_iret rfl dX7_check_137 ?_
        exact hq _ _ (by simp [ckM, cI, hc14, hc14N, hc15, Nat.lt_of_not_le hc14N]) O12 ⟨_, _, _, _, F7, hCA.1.1⟩ G8 (am_fpT (fun k (hk : k ≠ 0 ∧ k < 92 ∧ (k < 13 ∨ 25 ≤ k)) => fy11 k (by omega)) am_fp0)
set_option maxHeartbeats 4000000 in
set_option maxRecDepth 100000 in
theorem C_check {X : List Int32} {d rc rs n : Nat} {Q : am_Q} {h : am_H} {ik : Int32} {v : Int32} {wt : Nat → Int32} {q : Nat} {NI : Nat → Int32} {txI : List Value} {lkI mvI : Nat → Int32} {tb : TB} {frI cI9 : Nat} (O : OB ik (nI q) h) (Wt : WT wt h) (FI : QR 25 NI txI lkI mvI h) (T2 : TQ h) (G : TT tb h) (hq60 : q ≤ 60) (hIm : ¬ ik = 0 → RG NI frI cI9 ∧ TC tb txI lkI NI cI9) (hq : ∀ v9 h9, v9 = ckV cI9 frI q wt NI ik v → OB ik 0 h9 → TQ h9 → TT tb h9 → am_fp (fun k => k ≠ 0 ∧ k < 92 ∧ (k < 13 ∨ 25 ≤ k)) h9 h → Q (some (.int v9)) n h9) : AW X mX7_check (d + 40) rc rs 0 [some (.ref 0), some (.int v), none, none, none, none] [] n h Q := by
  obtain ⟨N1, tx1, lk1, mv1, F2, hl13⟩ := T2
  refine aw_aload_n (npc := 1) rfl dX7_check_0 rfl ?_
  refine aw_get (npc := 4) dX7_check_1 rfl kf_X7_61 O.1 rfl ?_
  refine aw_istore_n (npc := 5) (L' := [some (.ref 0), some (.int v), some (.int (nI q)), none, none, none]) dX7_check_4 rfl (by decide) rfl rfl ?_
  refine aw_aload_n (npc := 6) rfl dX7_check_5 rfl ?_
  refine aw_iconst (npc := 7) (v := 0) (by decide) dX7_check_6 rfl ?_
  refine aw_put (npc := 10) dX7_check_7 rfl kf_X7_61 O.1 (Nat.le_of_ble_eq_true rfl) (am_ok_int _) rfl ?_
  have O1 := ob_p10 (v := 0) O
  have Wt2 := wt_out (a := 0) (c := .inr (7, ([.ref 1, .ref 13, .ref 25, .int ik, .ref 37, .ref 39, .ref 40, .ref 43, .ref 44, .ref 45, .int (nI q)] : List Value).set 10 (.int 0))) (by omega) Wt
  have F3 := qr_out (a := 0) (c := .inr (7, ([.ref 1, .ref 13, .ref 25, .int ik, .ref 37, .ref 39, .ref 40, .ref 43, .ref 44, .ref 45, .int (nI q)] : List Value).set 10 (.int 0))) (by omega) F2
  have F4 := qr_out (a := 0) (c := .inr (7, ([.ref 1, .ref 13, .ref 25, .int ik, .ref 37, .ref 39, .ref 40, .ref 43, .ref 44, .ref 45, .int (nI q)] : List Value).set 10 (.int 0))) (by omega) FI
  have G5 := tt_out (k := 0) (c := .inr (7, ([.ref 1, .ref 13, .ref 25, .int ik, .ref 37, .ref 39, .ref 40, .ref 43, .ref 44, .ref 45, .int (nI q)] : List Value).set 10 (.int 0))) (by omega) G
  refine aw_iload_n (npc := 11) rfl dX7_check_10 rfl ?_
  refine aw_iconst (npc := 12) (v := 1) (by decide) dX7_check_11 rfl ?_
  refine aw_bipush (npc := 14) (v := 30) (by decide) dX7_check_12 rfl ?_
  refine aw_callS (npc := 17) (N := mX7_within) (mc := 0) (ms := 0) (A := [.int v, .int 1, .int 30]) (S := []) (L0 := [some (.int v), some (.int 1), some (.int 30)]) dX7_check_14 rfl km_X7_within kk_X7_74 rfl ⟨rfl, by decide⟩ rfl (Nat.le_of_ble_eq_true rfl) (Nat.zero_add _) (Nat.zero_add _) rfl ?_
  refine c_X7_within (fun hw6 => ?_) (fun hw6 => ?_)
  · obtain ⟨vn, hvn, evn⟩ := wi_nI (H := 30) (by decide) (by decide) hw6
    subst evn
    have fvn : fN (nI vn) = vn := fN_nI (by omega)
    refine aw_re (S' := [.int 1]) rfl ?_
    refine aw_if_ne (npc := 20) (tgt := 23) dX7_check_17 rfl (by decide) (fun _ => ?_) (fun hc => absurd hc (by decide))
    refine aw_aload_n (npc := 24) rfl dX7_check_23 rfl ?_
    refine aw_get (npc := 27) dX7_check_24 rfl kf_X7_22 O1.1 rfl ?_
    refine aw_if_ne (npc := 30) (tgt := 34) dX7_check_27 rfl (by decide) (fun hc7 => ?_) (fun hc7 => ?_)
    · obtain ⟨hRI, hCI⟩ := hIm hc7
      have hKI := rg_rk hRI
      obtain ⟨pp, hpp, epp⟩ := wi_nI (H := 9999) (by decide) (by decide) hRI.2.2.2.2.2.2.2.2.1
      have fpp : fN (nI pp) = pp := fN_nI (by omega)
      refine aw_aload_n (npc := 35) rfl dX7_check_34 rfl ?_
      refine aw_get (npc := 38) dX7_check_35 rfl kf_X7_16 O1.1 rfl ?_
      refine aw_aload_n (npc := 39) rfl dX7_check_38 rfl ?_
      refine aw_get (npc := 42) dX7_check_39 rfl kf_X7_19 O1.1 rfl ?_
      refine aw_callV (npc := 45) (N := mX0_becomes) (b := 13) (mc := 0) (ms := 0) (A := [.ref 25]) (S := []) (L0 := [some (.ref 13), some (.ref 25), none]) dX7_check_42 rfl km_X0_becomes kk_X7_193 F3.1 ⟨by decide, rfl⟩ rfl ⟨rfl, by decide⟩ rfl (Nat.le_of_ble_eq_true rfl) (Nat.zero_add _) (Nat.zero_add _) rfl ?_
      refine g_bec (tb := tb) F3 F4 G5 (by omega) (by omega) hl13 hCI.1.1 hCI.1.2.2.1 (fun hp10 F8 fz9 => ?_)
      have O11 := ob_frame O1 (fz9 0 (by omega)) (fz9 43 (by omega)) (fz9 44 (by omega))
      have Wt12 : WT wt _ := (fz9 45 (by omega)).trans Wt2
      have F13 := qr_frame F4 (fun k h1 h2 => fz9 k (by omega))
      have G14 := tt_frame G5 (fun k hk => fz9 k (by omega))
      refine aw_iconst (npc := 46) (v := 2) (by decide) dX7_check_45 rfl ?_
      refine aw_iload_n (npc := 47) rfl dX7_check_46 rfl ?_
      refine aw_sipush (npc := 50) (v := 9999) (by decide) dX7_check_47 rfl ?_
      refine aw_aload_n (npc := 51) rfl dX7_check_50 rfl ?_
      refine aw_get (npc := 54) dX7_check_51 rfl kf_X7_19 O11.1 rfl ?_
      refine aw_get (npc := 57) dX7_check_54 rfl kf_X7_160 F13.1 rfl ?_
      refine aw_top (y := nI pp) (epp) ?_
      refine aw_isubV (npc := 58) (v := nI (9999 - pp)) dX7_check_57 rfl (pk_sub (a := 9999) (by omega)) ?_
      refine aw_mmin (npc := 61) dX7_check_58 rfl kmm_X7_148 kmx_min (Nat.le_of_ble_eq_true rfl) ?_
      refine aw_top (y := nI (min vn (9999 - pp))) (min_nI (by omega) (by omega)) ?_
      refine aw_imulV (npc := 62) (v := nI (2 * (min vn (9999 - pp)))) dX7_check_61 rfl (pk_mul 2 _) ?_
      refine aw_istore_n (npc := 63) (L' := [some (.ref 0), some (.int (nI vn)), some (.int (nI q)), some (.int (nI (2 * (min vn (9999 - pp))))), none, none]) dX7_check_62 rfl (by decide) rfl rfl ?_
      refine aw_iconst (npc := 64) (v := 0) (by decide) dX7_check_63 rfl ?_
      refine aw_istore (npc := 66) (L' := [some (.ref 0), some (.int (nI vn)), some (.int (nI q)), some (.int (nI (2 * (min vn (9999 - pp))))), some (.int 0), none]) dX7_check_64 rfl (by decide) rfl rfl ?_
      refine aw_locs (L' := [some (.ref 0), some (.int (nI vn)), some (.int (nI q)), some (.int (nI (2 * min vn (9999 - pp)))), some (.int (nI (2 * 0))), none]) rfl ?_
      refine C_checkL (K := min vn (9999 - pp)) (by omega) hq60 _ 0 (Nat.zero_add _) _ _ none _ O11 Wt12 F8 G14 hCI hKI (fun v9 h9 e9 O9 T9 G9 f9 => hq v9 h9 ?_ O9 T9 G9 (am_fpT f9 (am_fpT (fun k (hk : k ≠ 0 ∧ k < 92 ∧ (k < 13 ∨ 25 ≤ k)) => fz9 k (by omega)) (am_fpU (show ¬ (0 ≠ 0 ∧ 0 < 92 ∧ (0 < 13 ∨ 25 ≤ 0)) by omega) am_fp0))))
      rw [e9]; simp [ckV, cI, hw6, hc7, fvn, epp, fpp]
    · refine aw_ldcw (npc := 33) kc_X7_321 dX7_check_30 rfl ?_
      refine aw_iret rfl dX7_check_33 ?_
      exact hq _ _ (by simp [ckV, cI, hw6, hc7, fvn]) O1 ⟨_, _, _, _, F3, hl13⟩ G5 (am_fpU (show ¬ (0 ≠ 0 ∧ 0 < 92 ∧ (0 < 13 ∨ 25 ≤ 0)) by omega) am_fp0)
  · refine aw_re (S' := [.int 0]) rfl ?_
    refine aw_if_ne (npc := 20) (tgt := 23) dX7_check_17 rfl (by decide) (fun hc => absurd (by decide) hc) (fun _ => ?_)
    refine aw_ldc (npc := 22) kc_X7_78 dX7_check_20 rfl ?_
    refine aw_iret rfl dX7_check_22 ?_
    exact hq _ _ (by simp [ckV, cI, hw6]) O1 ⟨_, _, _, _, F3, hl13⟩ G5 (am_fpU (show ¬ (0 ≠ 0 ∧ 0 < 92 ∧ (0 < 13 ∨ 25 ≤ 0)) by omega) am_fp0)
set_option maxHeartbeats 4000000 in
set_option maxRecDepth 100000 in
theorem c_diffL {X : List Int32} {d rc rs n : Nat} {Q : am_Q} {h : am_H} {ik wc : Int32} {NA lkA mvA sr sz cl : Nat → Int32} {txA : List Value} {s : Nat} (hs : s < 4) (O : OB ik wc h) (F2 : QR 13 NA txA lkA mvA h) (Rw : RW sr sz cl h) (hq : ∀ v, Q (some (.int v)) n h) : ∀ (m t : Nat), t + m = 4 → ∀ (sm : Int32), AW X mX7_differenceFrom (d + 12) rc rs 4 [some (.ref 0), some (.ref (46 + 2 * s)), some (.int sm), some (.int (nI t))] [] n h Q := by
  intro m
  induction m with
  | zero =>
    intro t ht sm
    obtain rfl : t = 4 := by omega
    refine aw_iload_n (npc := 5) rfl dX7_differenceFrom_4 rfl ?_
    refine aw_iconst (npc := 6) (v := 4) (by decide) dX7_differenceFrom_5 rfl ?_
    refine aw_icmp_ge (npc := 9) (tgt := 45) dX7_differenceFrom_6 rfl (by decide) (fun _ => ?_) (fun hc => absurd (nI_le (a := 4) (b := 4) (by omega) (by omega)) hc)
    refine aw_iload_n (npc := 46) rfl dX7_differenceFrom_45 rfl ?_
    refine aw_iret rfl dX7_differenceFrom_46 ?_
    exact hq _
  | succ m ih =>
    intro t ht sm
    refine aw_iload_n (npc := 5) rfl dX7_differenceFrom_4 rfl ?_
    refine aw_iconst (npc := 6) (v := 4) (by decide) dX7_differenceFrom_5 rfl ?_
    refine aw_icmp_ge (npc := 9) (tgt := 45) dX7_differenceFrom_6 rfl (by decide) (fun hc => absurd hc (nI_ge (a := t) (b := 4) (by omega) (by omega))) (fun _ => ?_)
    refine aw_aload_n (npc := 10) rfl dX7_differenceFrom_9 rfl ?_
    refine aw_iload_n (npc := 11) rfl dX7_differenceFrom_10 rfl ?_
    refine aw_callV (npc := 14) (N := mX2_isNumber) (b := 46 + 2 * s) (mc := 0) (ms := 0) (A := [.int (nI t)]) (S := []) (L0 := [some (.ref (46 + 2 * s)), some (.int (nI t))]) dX7_differenceFrom_11 rfl km_X2_isNumber kk_X7_215 (Rw s (by omega)).1 ⟨by decide, rfl⟩ rfl ⟨rfl, by decide⟩ rfl (Nat.le_of_ble_eq_true rfl) (Nat.zero_add _) (Nat.zero_add _) rfl ?_
    refine aw_aload_n (npc := 1) rfl dX2_isNumber_0 rfl ?_
    refine aw_iload_n (npc := 2) rfl dX2_isNumber_1 rfl ?_
    refine aw_callV (npc := 5) (N := mX2_isPlace) (b := 46 + 2 * s) (mc := 0) (ms := 0) (A := [.int (nI t)]) (S := []) (L0 := [some (.ref (46 + 2 * s)), some (.int (nI t))]) dX2_isNumber_2 rfl km_X2_isPlace kk_X2_38 (Rw s (by omega)).1 ⟨by decide, rfl⟩ rfl ⟨rfl, by decide⟩ rfl (Nat.le_of_ble_eq_true rfl) (Nat.zero_add _) (Nat.zero_add _) rfl ?_
    refine aw_iload_n (npc := 1) rfl dX2_isPlace_0 rfl ?_
    refine aw_iconst (npc := 2) (v := 0) (by decide) dX2_isPlace_1 rfl ?_
    refine aw_aload_n (npc := 3) rfl dX2_isPlace_2 rfl ?_
    refine aw_get (npc := 6) dX2_isPlace_3 rfl kf_X2_15 (Rw s (by omega)).1 rfl ?_
    refine aw_iconst (npc := 7) (v := 1) (by decide) dX2_isPlace_6 rfl ?_
    refine aw_isub (npc := 8) dX2_isPlace_7 rfl ?_
    refine aw_callSN (npc := 11) (N := mX7_within) (mc := 0) (ms := 0) (A := [.int (nI t), .int 0, .int ((sz s) - 1)]) (S := []) (L0 := [some (.int (nI t)), some (.int 0), some (.int ((sz s) - 1))]) dX2_isPlace_8 rfl km_X7_within kk_X2_34 rfl ⟨rfl, by decide⟩ rfl (Nat.le_of_ble_eq_true rfl) (Nat.zero_add _) (Nat.zero_add _) rfl ?_
    refine c_X7_within (fun hw9 => ?_) (fun hw9 => ?_)
    · refine aw_re (S' := [.int 1]) rfl ?_
      refine aw_zret rfl rfl dX2_isPlace_11 ?_
      refine aw_re (S' := [.int 1]) rfl ?_
      refine aw_if_eq (npc := 8) (tgt := 23) dX2_isNumber_5 rfl (by decide) (fun hc => absurd hc (by decide)) (fun _ => ?_)
      refine aw_aload_n (npc := 9) rfl dX2_isNumber_8 rfl ?_
      refine aw_get (npc := 12) dX2_isNumber_9 rfl kf_X2_18 (Rw s (by omega)).1 rfl ?_
      refine aw_iload_n (npc := 13) rfl dX2_isNumber_12 rfl ?_
      refine aw_iald (npc := 14) (x := cl (24 * s + t)) (j := t) dX2_isNumber_13 rfl (Rw s (by omega)).2 (am_ix_nI (by omega)) (tl_at (by omega)) ?_
      refine aw_ldc (npc := 16) kc_X2_42 dX2_isNumber_14 rfl ?_
      refine aw_icmp_eq (npc := 19) (tgt := 23) dX2_isNumber_16 rfl (by decide) (fun hc2 => ?_) (fun hc2 => ?_)
      · refine aw_iconst (npc := 24) (v := 0) (by decide) dX2_isNumber_23 rfl ?_
        refine aw_zret rfl rfl dX2_isNumber_24 ?_
        refine aw_re (S' := [.int 0]) rfl ?_
        refine aw_if_eq (npc := 17) (tgt := 39) dX7_differenceFrom_14 rfl (by decide) (fun _ => ?_) (fun hc => absurd (by decide) hc)
        refine aw_iinc (npc := 42) (v := nI (t + 1)) (L' := [some (.ref 0), some (.ref (46 + 2 * s)), some (.int sm), some (.int (nI (t + 1)))]) dX7_differenceFrom_39 rfl rfl (nI_1 _) (by decide) rfl rfl ?_
        refine aw_goto (npc := 4) dX7_differenceFrom_42 (by decide) ?_
        exact ih (t + 1) (by omega) _
      · refine aw_iconst (npc := 20) (v := 1) (by decide) dX2_isNumber_19 rfl ?_
        refine aw_goto (npc := 24) dX2_isNumber_20 (by decide) ?_
        refine aw_zret rfl rfl dX2_isNumber_24 ?_
        refine aw_re (S' := [.int 1]) rfl ?_
        refine aw_if_eq (npc := 17) (tgt := 39) dX7_differenceFrom_14 rfl (by decide) (fun hc => absurd hc (by decide)) (fun _ => ?_)
        refine aw_iload_n (npc := 18) rfl dX7_differenceFrom_17 rfl ?_
        refine aw_aload_n (npc := 19) rfl dX7_differenceFrom_18 rfl ?_
        refine aw_get (npc := 22) dX7_differenceFrom_19 rfl kf_X7_16 O.1 rfl ?_
        refine aw_get (npc := 25) dX7_differenceFrom_22 rfl kf_X7_127 F2.1 rfl ?_
        refine aw_iload_n (npc := 26) rfl dX7_differenceFrom_25 rfl ?_
        refine aw_iald (npc := 27) (x := NA (8 + 1 * t)) (j := t) dX7_differenceFrom_26 rfl F2.2.1 (am_ix_nI (by omega)) (tl_at (by omega)) ?_
        refine aw_aload_n (npc := 28) rfl dX7_differenceFrom_27 rfl ?_
        refine aw_get (npc := 31) dX7_differenceFrom_28 rfl kf_X7_218 (Rw s (by omega)).1 rfl ?_
        refine aw_iload_n (npc := 32) rfl dX7_differenceFrom_31 rfl ?_
        refine aw_iald (npc := 33) (x := cl (24 * s + t)) (j := t) dX7_differenceFrom_32 rfl (Rw s (by omega)).2 (am_ix_nI (by omega)) (tl_at (by omega)) ?_
        refine aw_isub (npc := 34) dX7_differenceFrom_33 rfl ?_
        refine aw_mabs (npc := 37) dX7_differenceFrom_34 rfl kmm_X7_221 kmx_abs (Nat.le_of_ble_eq_true rfl) ?_
        refine aw_iadd (npc := 38) dX7_differenceFrom_37 rfl ?_
        refine aw_istore_n (npc := 39) (L' := [some (.ref 0), some (.ref (46 + 2 * s)), some (.int (sm + (if 0 ≤ ((NA (8 + 1 * t)) - (cl (24 * s + t))) then (NA (8 + 1 * t)) - (cl (24 * s + t)) else 0 - ((NA (8 + 1 * t)) - (cl (24 * s + t)))))), some (.int (nI t))]) dX7_differenceFrom_38 rfl (by decide) rfl rfl ?_
        refine aw_iinc (npc := 42) (v := nI (t + 1)) (L' := [some (.ref 0), some (.ref (46 + 2 * s)), some (.int (sm + (if 0 ≤ ((NA (8 + 1 * t)) - (cl (24 * s + t))) then (NA (8 + 1 * t)) - (cl (24 * s + t)) else 0 - ((NA (8 + 1 * t)) - (cl (24 * s + t)))))), some (.int (nI (t + 1)))]) dX7_differenceFrom_39 rfl rfl (nI_1 _) (by decide) rfl rfl ?_
        refine aw_goto (npc := 4) dX7_differenceFrom_42 (by decide) ?_
        exact ih (t + 1) (by omega) _
    · refine aw_re (S' := [.int 0]) rfl ?_
      refine aw_zret rfl rfl dX2_isPlace_11 ?_
      refine aw_re (S' := [.int 0]) rfl ?_
      refine aw_if_eq (npc := 8) (tgt := 23) dX2_isNumber_5 rfl (by decide) (fun _ => ?_) (fun hc => absurd (by decide) hc)
      refine aw_iconst (npc := 24) (v := 0) (by decide) dX2_isNumber_23 rfl ?_
      refine aw_zret rfl rfl dX2_isNumber_24 ?_
      refine aw_re (S' := [.int 0]) rfl ?_
      refine aw_if_eq (npc := 17) (tgt := 39) dX7_differenceFrom_14 rfl (by decide) (fun _ => ?_) (fun hc => absurd (by decide) hc)
      refine aw_iinc (npc := 42) (v := nI (t + 1)) (L' := [some (.ref 0), some (.ref (46 + 2 * s)), some (.int sm), some (.int (nI (t + 1)))]) dX7_differenceFrom_39 rfl rfl (nI_1 _) (by decide) rfl rfl ?_
      refine aw_goto (npc := 4) dX7_differenceFrom_42 (by decide) ?_
      exact ih (t + 1) (by omega) _
set_option maxHeartbeats 4000000 in
set_option maxRecDepth 100000 in
theorem c_diff {X : List Int32} {d rc rs n : Nat} {Q : am_Q} {h : am_H} {ik wc : Int32} {NA lkA mvA sr sz cl : Nat → Int32} {txA : List Value} {s : Nat} (hs : s < 4) (O : OB ik wc h) (F2 : QR 13 NA txA lkA mvA h) (Rw : RW sr sz cl h) (hq : ∀ v, Q (some (.int v)) n h) : AW X mX7_differenceFrom (d + 12) rc rs 0 [some (.ref 0), some (.ref (46 + 2 * s)), none, none] [] n h Q := by
  refine aw_iconst (npc := 1) (v := 0) (by decide) dX7_differenceFrom_0 rfl ?_
  refine aw_istore_n (npc := 2) (L' := [some (.ref 0), some (.ref (46 + 2 * s)), some (.int 0), none]) dX7_differenceFrom_1 rfl (by decide) rfl rfl ?_
  refine aw_iconst (npc := 3) (v := 0) (by decide) dX7_differenceFrom_2 rfl ?_
  refine aw_istore_n (npc := 4) (L' := [some (.ref 0), some (.ref (46 + 2 * s)), some (.int 0), some (.int 0)]) dX7_differenceFrom_3 rfl (by decide) rfl rfl ?_
  refine aw_locs (L' := [some (.ref 0), some (.ref (46 + 2 * s)), some (.int 0), some (.int (nI 0))]) rfl ?_
  exact c_diffL hs O F2 Rw hq 4 0 (by omega) 0
set_option maxHeartbeats 4000000 in
set_option maxRecDepth 100000 in
theorem C_caredL {X : List Int32} {d rc rs n : Nat} {Q : am_Q} {tx : List Value} {lk : Nat → Int32} {ik wc : Int32} {fr c : Nat} {tb : TB} {N mv sr sz cl : Nat → Int32} {v1 v3 : Int32} {e s : Nat} (hs : s < 4) (he : e < 2) (hC : TC tb tx lk N c) (hK : RK N fr c) : ∀ (m t : Nat), t + m = 4 → ∀ (b l : Int32) (v8 : Option Value) (h : am_H), OB ik wc h → QR 1 N tx lk mv h → TQ h → RW sr sz cl h → TT tb h → (∀ v9 h9, TQ h9 → TT tb h9 → am_fp (fun k => k < 92 ∧ (k < 13 ∨ 25 ≤ k)) h9 h → Q (some (.int v9)) n h9) → AW X mX7_cared (d + 40) rc rs 56 [some (.ref 0), some (.int v1), some (.int (nI e)), some (.int v3), some (.ref (46 + 2 * s)), some (.int b), some (.int l), some (.int (nI t)), v8] [] n h Q := by
  intro m
  induction m with
  | zero =>
    intro t ht b l v8 h O F T2 Rw G hq
    obtain rfl : t = 4 := by omega
    refine aw_iload (npc := 58) rfl dX7_cared_56 rfl ?_
    refine aw_iconst (npc := 59) (v := 4) (by decide) dX7_cared_58 rfl ?_
    refine aw_icmp_ge (npc := 62) (tgt := 135) dX7_cared_59 rfl (by decide) (fun _ => ?_) (fun hc => absurd (nI_le (a := 4) (b := 4) (by omega) (by omega)) hc)
    refine aw_iload_n (npc := 136) rfl dX7_cared_135 rfl ?_
    refine aw_if_ne (npc := 139) (tgt := 144) dX7_cared_136 rfl (by decide) (fun hc2 => ?_) (fun hc2 => ?_)
    · refine aw_iload (npc := 146) rfl dX7_cared_144 rfl ?_
      refine aw_iret rfl dX7_cared_146 ?_
      exact hq _ _ T2 G am_fp0
    · refine aw_iload (npc := 141) rfl dX7_cared_139 rfl ?_
      refine aw_goto (npc := 146) dX7_cared_141 (by decide) ?_
      refine aw_iret rfl dX7_cared_146 ?_
      exact hq _ _ T2 G am_fp0
  | succ m ih =>
    intro t ht b l v8 h O F T2 Rw G hq
    obtain ⟨N1, tx1, lk1, mv1, F2, hl13⟩ := T2
    refine aw_iload (npc := 58) rfl dX7_cared_56 rfl ?_
    refine aw_iconst (npc := 59) (v := 4) (by decide) dX7_cared_58 rfl ?_
    refine aw_icmp_ge (npc := 62) (tgt := 135) dX7_cared_59 rfl (by decide) (fun hc => absurd hc (nI_ge (a := t) (b := 4) (by omega) (by omega))) (fun _ => ?_)
    refine aw_aload_n (npc := 63) rfl dX7_cared_62 rfl ?_
    refine aw_get (npc := 66) dX7_cared_63 rfl kf_X7_16 O.1 rfl ?_
    refine aw_aload_n (npc := 67) rfl dX7_cared_66 rfl ?_
    refine aw_get (npc := 70) dX7_cared_67 rfl kf_X7_10 O.1 rfl ?_
    refine aw_callV (npc := 73) (N := mX0_becomes) (b := 13) (mc := 0) (ms := 0) (A := [.ref 1]) (S := []) (L0 := [some (.ref 13), some (.ref 1), none]) dX7_cared_70 rfl km_X0_becomes kk_X7_193 F2.1 ⟨by decide, rfl⟩ rfl ⟨rfl, by decide⟩ rfl (Nat.le_of_ble_eq_true rfl) (Nat.zero_add _) (Nat.zero_add _) rfl ?_
    refine g_bec (tb := tb) F2 F G (by omega) (by omega) hl13 hC.1.1 hC.1.2.2.1 (fun hp4 F2 fz3 => ?_)
    have O5 := ob_frame O (fz3 0 (by omega)) (fz3 43 (by omega)) (fz3 44 (by omega))
    have F6 := qr_frame F (fun k h1 h2 => fz3 k (by omega))
    have Rw7 := rw_frame Rw (fun k h1 h2 => fz3 k (by omega))
    have G8 := tt_frame G (fun k hk => fz3 k (by omega))
    refine aw_aload_n (npc := 74) rfl dX7_cared_73 rfl ?_
    refine aw_get (npc := 77) dX7_cared_74 rfl kf_X7_16 O5.1 rfl ?_
    refine aw_get (npc := 80) dX7_cared_77 rfl kf_X7_130 F2.1 rfl ?_
    refine aw_iload_n (npc := 81) rfl dX7_cared_80 rfl ?_
    refine aw_iload (npc := 83) rfl dX7_cared_81 rfl ?_
    refine aw_callS (npc := 86) (N := mX7_carePlace) (mc := 0) (ms := 0) (A := [.int (nI e), .int (nI t)]) (S := [.ref 15]) (L0 := [some (.int (nI e)), some (.int (nI t))]) dX7_cared_83 rfl km_X7_carePlace kk_X7_133 rfl ⟨rfl, by decide⟩ rfl (Nat.le_of_ble_eq_true rfl) (Nat.zero_add _) (Nat.zero_add _) rfl ?_
    refine aw_iload_n (npc := 1) rfl dX7_carePlace_0 rfl ?_
    refine aw_iconst (npc := 2) (v := 4) (by decide) dX7_carePlace_1 rfl ?_
    refine aw_imulV (npc := 3) (v := nI (e * 4)) dX7_carePlace_2 rfl (pk_mul _ 4) ?_
    refine aw_iload_n (npc := 4) rfl dX7_carePlace_3 rfl ?_
    refine aw_iaddV (npc := 5) (v := nI ((e * 4) + t)) dX7_carePlace_4 rfl (nI_add _ _) ?_
    refine aw_iret rfl dX7_carePlace_5 ?_
    refine aw_re (S' := [.int (nI ((e * 4) + t)), .ref 15]) rfl ?_
    refine aw_bipush (npc := 88) (v := 9) (by decide) dX7_cared_86 rfl ?_
    refine aw_iast (npc := 89) (j := ((e * 4) + t)) dX7_cared_88 rfl F2.2.2.1 (am_ix_nI (by omega)) (by rw [tl_len]; omega) rfl ?_
    have F9 := qr_care (j := ((e * 4) + t)) (v := 9) F2 (by omega)
    have O10 := ob_out (a := 15) (c := .inl (0, (tl 8 (fun z9 => N (12 + 1 * z9))).set ((e * 4) + t) 9)) (by omega) O5
    have F11 := qr_out (a := 15) (c := .inl (0, (tl 8 (fun z9 => N (12 + 1 * z9))).set ((e * 4) + t) 9)) (by omega) F6
    have Rw12 := rw_out (a := 15) (c := .inl (0, (tl 8 (fun z9 => N (12 + 1 * z9))).set ((e * 4) + t) 9)) (by omega) Rw7
    have G13 := tt_out (k := 15) (c := .inl (0, (tl 8 (fun z9 => N (12 + 1 * z9))).set ((e * 4) + t) 9)) (by omega) G8
    refine aw_aload_n (npc := 90) rfl dX7_cared_89 rfl ?_
    refine aw_get (npc := 93) dX7_cared_90 rfl kf_X7_16 O10.1 rfl ?_
    refine aw_iconst (npc := 94) (v := 1) (by decide) dX7_cared_93 rfl ?_
    refine aw_iconst (npc := 95) (v := -1) (by decide) dX7_cared_94 rfl ?_
    refine aw_callV (npc := 98) (N := mX0_runPosts) (b := 13) (mc := 0) (ms := 0) (A := [.int 1, .int (-1)]) (S := []) (L0 := [some (.ref 13), some (.int 1), some (.int (-1)), none, none]) dX7_cared_95 rfl km_X0_runPosts kk_X7_163 F9.1 ⟨by decide, rfl⟩ rfl ⟨rfl, by decide⟩ rfl (Nat.le_of_ble_eq_true rfl) (Nat.zero_add _) (Nat.zero_add _) rfl ?_
    have hT23 : TC tb tx lk (upd N (12 + 1 * ((e * 4) + t)) 9) c := (tc_u (by omega) (by omega) hC)
    have hK24 : RK (upd N (12 + 1 * ((e * 4) + t)) 9) fr c := (rk_care (j := 1 * ((e * 4) + t)) ⟨by decide, by decide⟩ (by omega) hK)
    refine g_run (b := 13) (K := 1) (wo := (-1)) F9 G13 hK24.1 hK24.2.1 hK24.2.2.1 hT23.1 (fun f hf => ⟨(hK24.2.2.2.2.1 f hf).1, (hK24.2.2.2.2.1 f hf).2.1⟩) (by omega) (by omega) (fun N914 s915 m916 h917 hr18 F19 G20 fz21 => ?_)
    have er22 := (run_c 1 _ _ _ _ hT23 hK24 hr18).1
    rw [er22] at F19
    have fy25 : ∀ k, (k < 92 ∧ (k < 13 ∨ 13 + 12 ≤ k)) → h917 k = _ := fun k hk => fz21 k hk.1 hk.2
    have O26 := ob_frame O10 (fy25 0 (by omega)) (fy25 43 (by omega)) (fy25 44 (by omega))
    have F27 := qr_frame F11 (fun k h1 h2 => fy25 k (by omega))
    have Rw28 := rw_frame Rw12 (fun k h1 h2 => fy25 k (by omega))
    refine aw_re (S' := [.int s915]) rfl ?_
    refine aw_pop (npc := 99) rfl dX7_cared_98 rfl ?_
    refine aw_aload_n (npc := 100) rfl dX7_cared_99 rfl ?_
    refine aw_aload (npc := 102) rfl dX7_cared_100 rfl ?_
    refine aw_callV (npc := 105) (N := mX7_differenceFrom) (b := 0) (mc := 0) (ms := 0) (A := [.ref (46 + 2 * s)]) (S := []) (L0 := [some (.ref 0), some (.ref (46 + 2 * s)), none, none]) dX7_cared_102 rfl km_X7_differenceFrom kk_X7_211 O26.1 ⟨by decide, rfl⟩ rfl ⟨rfl, by decide⟩ rfl (Nat.le_of_ble_eq_true rfl) (Nat.zero_add _) (Nat.zero_add _) rfl ?_
    refine c_diff (s := s) (by omega) O26 F19 Rw28 (fun dv29 => ?_)
    refine aw_re (S' := [.int dv29]) rfl ?_
    refine aw_istore (npc := 107) (L' := [some (.ref 0), some (.int v1), some (.int (nI e)), some (.int v3), some (.ref (46 + 2 * s)), some (.int b), some (.int l), some (.int (nI t)), some (.int dv29)]) dX7_cared_105 rfl (by decide) rfl rfl ?_
    refine aw_iload (npc := 109) rfl dX7_cared_107 rfl ?_
    refine aw_ldc (npc := 111) kc_X7_200 dX7_cared_109 rfl ?_
    refine aw_icmp_eq (npc := 114) (tgt := 121) dX7_cared_111 rfl (by decide) (fun hc30 => ?_) (fun hc30 => ?_)
    · refine aw_iload (npc := 123) rfl dX7_cared_121 rfl ?_
      refine aw_istore (npc := 125) (L' := [some (.ref 0), some (.int v1), some (.int (nI e)), some (.int v3), some (.ref (46 + 2 * s)), some (.int (nI t)), some (.int l), some (.int (nI t)), some (.int dv29)]) dX7_cared_123 rfl (by decide) rfl rfl ?_
      refine aw_iload (npc := 127) rfl dX7_cared_125 rfl ?_
      refine aw_istore (npc := 129) (L' := [some (.ref 0), some (.int v1), some (.int (nI e)), some (.int v3), some (.ref (46 + 2 * s)), some (.int (nI t)), some (.int dv29), some (.int (nI t)), some (.int dv29)]) dX7_cared_127 rfl (by decide) rfl rfl ?_
      refine aw_iinc (npc := 132) (v := nI (t + 1)) (L' := [some (.ref 0), some (.int v1), some (.int (nI e)), some (.int v3), some (.ref (46 + 2 * s)), some (.int (nI t)), some (.int dv29), some (.int (nI (t + 1))), some (.int dv29)]) dX7_cared_129 rfl rfl (nI_1 _) (by decide) rfl rfl ?_
      refine aw_goto (npc := 56) dX7_cared_132 (by decide) ?_
      exact ih (t + 1) (by omega) _ _ _ _ O26 F27 ⟨_, _, _, _, F19, hC.1.1⟩ Rw28 G20 (fun v9 h9 T9 G9 f9 => hq v9 h9 T9 G9 (am_fpT f9 (am_fpT (fun k (hk : k < 92 ∧ (k < 13 ∨ 25 ≤ k)) => fy25 k (by omega)) (am_fpU (show ¬ (15 < 92 ∧ (15 < 13 ∨ 25 ≤ 15)) by omega) (am_fpT (fun k (hk : k < 92 ∧ (k < 13 ∨ 25 ≤ k)) => fz3 k (by omega)) am_fp0)))))
    · refine aw_iload (npc := 116) rfl dX7_cared_114 rfl ?_
      refine aw_iload (npc := 118) rfl dX7_cared_116 rfl ?_
      refine aw_icmp_ge (npc := 121) (tgt := 129) dX7_cared_118 rfl (by decide) (fun hc31 => ?_) (fun hc31 => ?_)
      · refine aw_iinc (npc := 132) (v := nI (t + 1)) (L' := [some (.ref 0), some (.int v1), some (.int (nI e)), some (.int v3), some (.ref (46 + 2 * s)), some (.int b), some (.int l), some (.int (nI (t + 1))), some (.int dv29)]) dX7_cared_129 rfl rfl (nI_1 _) (by decide) rfl rfl ?_
        refine aw_goto (npc := 56) dX7_cared_132 (by decide) ?_
        exact ih (t + 1) (by omega) _ _ _ _ O26 F27 ⟨_, _, _, _, F19, hC.1.1⟩ Rw28 G20 (fun v9 h9 T9 G9 f9 => hq v9 h9 T9 G9 (am_fpT f9 (am_fpT (fun k (hk : k < 92 ∧ (k < 13 ∨ 25 ≤ k)) => fy25 k (by omega)) (am_fpU (show ¬ (15 < 92 ∧ (15 < 13 ∨ 25 ≤ 15)) by omega) (am_fpT (fun k (hk : k < 92 ∧ (k < 13 ∨ 25 ≤ k)) => fz3 k (by omega)) am_fp0)))))
      · refine aw_iload (npc := 123) rfl dX7_cared_121 rfl ?_
        refine aw_istore (npc := 125) (L' := [some (.ref 0), some (.int v1), some (.int (nI e)), some (.int v3), some (.ref (46 + 2 * s)), some (.int (nI t)), some (.int l), some (.int (nI t)), some (.int dv29)]) dX7_cared_123 rfl (by decide) rfl rfl ?_
        refine aw_iload (npc := 127) rfl dX7_cared_125 rfl ?_
        refine aw_istore (npc := 129) (L' := [some (.ref 0), some (.int v1), some (.int (nI e)), some (.int v3), some (.ref (46 + 2 * s)), some (.int (nI t)), some (.int dv29), some (.int (nI t)), some (.int dv29)]) dX7_cared_127 rfl (by decide) rfl rfl ?_
        refine aw_iinc (npc := 132) (v := nI (t + 1)) (L' := [some (.ref 0), some (.int v1), some (.int (nI e)), some (.int v3), some (.ref (46 + 2 * s)), some (.int (nI t)), some (.int dv29), some (.int (nI (t + 1))), some (.int dv29)]) dX7_cared_129 rfl rfl (nI_1 _) (by decide) rfl rfl ?_
        refine aw_goto (npc := 56) dX7_cared_132 (by decide) ?_
        exact ih (t + 1) (by omega) _ _ _ _ O26 F27 ⟨_, _, _, _, F19, hC.1.1⟩ Rw28 G20 (fun v9 h9 T9 G9 f9 => hq v9 h9 T9 G9 (am_fpT f9 (am_fpT (fun k (hk : k < 92 ∧ (k < 13 ∨ 25 ≤ k)) => fy25 k (by omega)) (am_fpU (show ¬ (15 < 92 ∧ (15 < 13 ∨ 25 ≤ 15)) by omega) (am_fpT (fun k (hk : k < 92 ∧ (k < 13 ∨ 25 ≤ k)) => fz3 k (by omega)) am_fp0)))))
set_option maxHeartbeats 4000000 in
set_option maxRecDepth 100000 in
theorem C_cared {X : List Int32} {d rc rs n : Nat} {Q : am_Q} {h : am_H} {N : Nat → Int32} {tx : List Value} {lk mv : Nat → Int32} {ik wc : Int32} {fr c : Nat} {s : Int32} {e : Int32} {w : Int32} {sr sz cl : Nat → Int32} (Rw : RW sr sz cl h) (hI : RI sr sz) {tb : TB} (O : OB ik wc h) (F : QR 1 N tx lk mv h) (T2 : TQ h) (G : TT tb h) (hR : RG N fr c) (hC : TC tb tx lk N c) (hq : ∀ v9 h9, TQ h9 → TT tb h9 → am_fp (fun k => k < 92 ∧ (k < 13 ∨ 25 ≤ k)) h9 h → Q (some (.int v9)) n h9) : AW X mX7_cared (d + 40) rc rs 0 [some (.ref 0), some (.int s), some (.int e), some (.int w), none, none, none, none, none] [] n h Q := by
  have h8r := hR.2.1
  have h14r := hR.2.2.2.1
  refine aw_iload_n (npc := 1) rfl dX7_cared_0 rfl ?_
  refine aw_callS (npc := 4) (N := mX7_isSheet) (mc := 0) (ms := 0) (A := [.int s]) (S := []) (L0 := [some (.int s)]) dX7_cared_1 rfl km_X7_isSheet kk_X7_204 rfl ⟨rfl, by decide⟩ rfl (Nat.le_of_ble_eq_true rfl) (Nat.zero_add _) (Nat.zero_add _) rfl ?_
  refine c_X7_isSheet (fun hw1 => ?_) (fun hw1 => ?_)
  · obtain ⟨sn, hsn, esn⟩ := wi_nI (H := 3) (by decide) (by decide) hw1
    subst esn
    have fsn : fN (nI sn) = sn := fN_nI (by omega)
    obtain ⟨hsr, z9, hz24, ez9⟩ := hI sn (by omega)
    have fz9 : fN (nI z9) = z9 := fN_nI (by omega)
    refine aw_re (S' := [.int 1]) rfl ?_
    refine aw_if_eq (npc := 7) (tgt := 23) dX7_cared_4 rfl (by decide) (fun hc => absurd hc (by decide)) (fun _ => ?_)
    refine aw_iload_n (npc := 8) rfl dX7_cared_7 rfl ?_
    refine aw_callS (npc := 11) (N := mX7_isSide) (mc := 0) (ms := 0) (A := [.int e]) (S := []) (L0 := [some (.int e)]) dX7_cared_8 rfl km_X7_isSide kk_X7_71 rfl ⟨rfl, by decide⟩ rfl (Nat.le_of_ble_eq_true rfl) (Nat.zero_add _) (Nat.zero_add _) rfl ?_
    refine c_X7_isSide (fun hw2 => ?_) (fun hw2 => ?_)
    · obtain ⟨en, hen, een⟩ := wi_nI (H := 1) (by decide) (by decide) hw2
      subst een
      have fen : fN (nI en) = en := fN_nI (by omega)
      refine aw_re (S' := [.int 1]) rfl ?_
      refine aw_if_eq (npc := 14) (tgt := 23) dX7_cared_11 rfl (by decide) (fun hc => absurd hc (by decide)) (fun _ => ?_)
      refine aw_iload_n (npc := 15) rfl dX7_cared_14 rfl ?_
      refine aw_iconst (npc := 16) (v := 0) (by decide) dX7_cared_15 rfl ?_
      refine aw_iconst (npc := 17) (v := 1) (by decide) dX7_cared_16 rfl ?_
      refine aw_callS (npc := 20) (N := mX7_within) (mc := 0) (ms := 0) (A := [.int w, .int 0, .int 1]) (S := []) (L0 := [some (.int w), some (.int 0), some (.int 1)]) dX7_cared_17 rfl km_X7_within kk_X7_74 rfl ⟨rfl, by decide⟩ rfl (Nat.le_of_ble_eq_true rfl) (Nat.zero_add _) (Nat.zero_add _) rfl ?_
      refine c_X7_within (fun hw3 => ?_) (fun hw3 => ?_)
      · refine aw_re (S' := [.int 1]) rfl ?_
        refine aw_if_ne (npc := 23) (tgt := 26) dX7_cared_20 rfl (by decide) (fun _ => ?_) (fun hc => absurd hc (by decide))
        refine aw_aload_n (npc := 27) rfl dX7_cared_26 rfl ?_
        refine aw_get (npc := 30) dX7_cared_27 rfl kf_X7_47 O.1 rfl ?_
        refine aw_iload_n (npc := 31) rfl dX7_cared_30 rfl ?_
        refine aw_aald (npc := 32) (j := sn) dX7_cared_31 rfl (by decide) O.2.1 (am_ix_nI (by omega)) (sh_at (by omega)) ?_
        refine aw_astore (npc := 34) (L' := [some (.ref 0), some (.int (nI sn)), some (.int (nI en)), some (.int w), some (.ref (46 + 2 * sn)), none, none, none, none]) dX7_cared_32 rfl (by decide) rfl rfl ?_
        refine aw_aload (npc := 36) rfl dX7_cared_34 rfl ?_
        refine aw_callV (npc := 39) (N := mX2_isMissing) (b := 46 + 2 * sn) (mc := 0) (ms := 0) (A := []) (S := []) (L0 := [some (.ref (46 + 2 * sn))]) dX7_cared_36 rfl km_X2_isMissing kk_X7_207 (Rw sn (by omega)).1 ⟨by decide, rfl⟩ rfl ⟨rfl, by decide⟩ rfl (Nat.le_of_ble_eq_true rfl) (Nat.zero_add _) (Nat.zero_add _) rfl ?_
        refine aw_aload_n (npc := 1) rfl dX2_isMissing_0 rfl ?_
        refine aw_get (npc := 4) dX2_isMissing_1 rfl kf_X2_9 (Rw sn (by omega)).1 rfl ?_
        rcases wi_cm1_1 hsr with esr | esr | esr
        · refine aw_top (y := -1) esr ?_
          refine aw_iconst (npc := 5) (v := -1) (by decide) dX2_isMissing_4 rfl ?_
          refine aw_icmp_ne (npc := 8) (tgt := 12) dX2_isMissing_5 rfl (by decide) (fun hc => absurd (by decide) hc) (fun _ => ?_)
          refine aw_iconst (npc := 9) (v := 1) (by decide) dX2_isMissing_8 rfl ?_
          refine aw_goto (npc := 13) dX2_isMissing_9 (by decide) ?_
          refine aw_zret rfl rfl dX2_isMissing_13 ?_
          refine aw_re (S' := [.int 1]) rfl ?_
          refine aw_if_eq (npc := 42) (tgt := 45) dX7_cared_39 rfl (by decide) (fun hc => absurd hc (by decide)) (fun _ => ?_)
          refine aw_ldc (npc := 44) kc_X7_210 dX7_cared_42 rfl ?_
          refine aw_iret rfl dX7_cared_44 ?_
          exact hq _ _ T2 G am_fp0
        · refine aw_top (y := 0) esr ?_
          refine aw_iconst (npc := 5) (v := -1) (by decide) dX2_isMissing_4 rfl ?_
          refine aw_icmp_ne (npc := 8) (tgt := 12) dX2_isMissing_5 rfl (by decide) (fun _ => ?_) (fun hc => absurd hc (by decide))
          refine aw_iconst (npc := 13) (v := 0) (by decide) dX2_isMissing_12 rfl ?_
          refine aw_zret rfl rfl dX2_isMissing_13 ?_
          refine aw_re (S' := [.int 0]) rfl ?_
          refine aw_if_eq (npc := 42) (tgt := 45) dX7_cared_39 rfl (by decide) (fun _ => ?_) (fun hc => absurd (by decide) hc)
          refine aw_ldc (npc := 47) kc_X7_200 dX7_cared_45 rfl ?_
          refine aw_istore (npc := 49) (L' := [some (.ref 0), some (.int (nI sn)), some (.int (nI en)), some (.int w), some (.ref (46 + 2 * sn)), some (.int (-1000000005)), none, none, none]) dX7_cared_47 rfl (by decide) rfl rfl ?_
          refine aw_ldc (npc := 51) kc_X7_200 dX7_cared_49 rfl ?_
          refine aw_istore (npc := 53) (L' := [some (.ref 0), some (.int (nI sn)), some (.int (nI en)), some (.int w), some (.ref (46 + 2 * sn)), some (.int (-1000000005)), some (.int (-1000000005)), none, none]) dX7_cared_51 rfl (by decide) rfl rfl ?_
          refine aw_iconst (npc := 54) (v := 0) (by decide) dX7_cared_53 rfl ?_
          refine aw_istore (npc := 56) (L' := [some (.ref 0), some (.int (nI sn)), some (.int (nI en)), some (.int w), some (.ref (46 + 2 * sn)), some (.int (-1000000005)), some (.int (-1000000005)), some (.int 0), none]) dX7_cared_54 rfl (by decide) rfl rfl ?_
          refine aw_locs (L' := [some (.ref 0), some (.int (nI sn)), some (.int (nI en)), some (.int w), some (.ref (46 + 2 * sn)), some (.int (-1000000005)), some (.int (-1000000005)), some (.int (nI 0)), none]) rfl ?_
          exact C_caredL (s := sn) (e := en) (by omega) (by omega) hC (rg_rk hR) 4 0 (by omega) _ _ none _ O F T2 Rw G (fun v9 h9 T9 G9 f9 => hq v9 h9 T9 G9 f9)
        · refine aw_top (y := 1) esr ?_
          refine aw_iconst (npc := 5) (v := -1) (by decide) dX2_isMissing_4 rfl ?_
          refine aw_icmp_ne (npc := 8) (tgt := 12) dX2_isMissing_5 rfl (by decide) (fun _ => ?_) (fun hc => absurd hc (by decide))
          refine aw_iconst (npc := 13) (v := 0) (by decide) dX2_isMissing_12 rfl ?_
          refine aw_zret rfl rfl dX2_isMissing_13 ?_
          refine aw_re (S' := [.int 0]) rfl ?_
          refine aw_if_eq (npc := 42) (tgt := 45) dX7_cared_39 rfl (by decide) (fun _ => ?_) (fun hc => absurd (by decide) hc)
          refine aw_ldc (npc := 47) kc_X7_200 dX7_cared_45 rfl ?_
          refine aw_istore (npc := 49) (L' := [some (.ref 0), some (.int (nI sn)), some (.int (nI en)), some (.int w), some (.ref (46 + 2 * sn)), some (.int (-1000000005)), none, none, none]) dX7_cared_47 rfl (by decide) rfl rfl ?_
          refine aw_ldc (npc := 51) kc_X7_200 dX7_cared_49 rfl ?_
          refine aw_istore (npc := 53) (L' := [some (.ref 0), some (.int (nI sn)), some (.int (nI en)), some (.int w), some (.ref (46 + 2 * sn)), some (.int (-1000000005)), some (.int (-1000000005)), none, none]) dX7_cared_51 rfl (by decide) rfl rfl ?_
          refine aw_iconst (npc := 54) (v := 0) (by decide) dX7_cared_53 rfl ?_
          refine aw_istore (npc := 56) (L' := [some (.ref 0), some (.int (nI sn)), some (.int (nI en)), some (.int w), some (.ref (46 + 2 * sn)), some (.int (-1000000005)), some (.int (-1000000005)), some (.int 0), none]) dX7_cared_54 rfl (by decide) rfl rfl ?_
          refine aw_locs (L' := [some (.ref 0), some (.int (nI sn)), some (.int (nI en)), some (.int w), some (.ref (46 + 2 * sn)), some (.int (-1000000005)), some (.int (-1000000005)), some (.int (nI 0)), none]) rfl ?_
          exact C_caredL (s := sn) (e := en) (by omega) (by omega) hC (rg_rk hR) 4 0 (by omega) _ _ none _ O F T2 Rw G (fun v9 h9 T9 G9 f9 => hq v9 h9 T9 G9 f9)
      · refine aw_re (S' := [.int 0]) rfl ?_
        refine aw_if_ne (npc := 23) (tgt := 26) dX7_cared_20 rfl (by decide) (fun hc => absurd (by decide) hc) (fun _ => ?_)
        refine aw_ldc (npc := 25) kc_X7_78 dX7_cared_23 rfl ?_
        refine aw_iret rfl dX7_cared_25 ?_
        exact hq _ _ T2 G am_fp0
    · refine aw_re (S' := [.int 0]) rfl ?_
      refine aw_if_eq (npc := 14) (tgt := 23) dX7_cared_11 rfl (by decide) (fun _ => ?_) (fun hc => absurd (by decide) hc)
      refine aw_ldc (npc := 25) kc_X7_78 dX7_cared_23 rfl ?_
      refine aw_iret rfl dX7_cared_25 ?_
      exact hq _ _ T2 G am_fp0
  · refine aw_re (S' := [.int 0]) rfl ?_
    refine aw_if_eq (npc := 7) (tgt := 23) dX7_cared_4 rfl (by decide) (fun _ => ?_) (fun hc => absurd (by decide) hc)
    refine aw_ldc (npc := 25) kc_X7_78 dX7_cared_23 rfl ?_
    refine aw_iret rfl dX7_cared_25 ?_
    exact hq _ _ T2 G am_fp0
