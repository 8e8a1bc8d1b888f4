theorem nm_lt {tp : Nat → Int32} {ρ : RS} {j : Nat} (h : nameO tp ρ = some j) : j < 4 := by
  unfold nameO at h
  split at h
  · unfold nmF at h
    repeat' split at h
    all_goals first | (have z := Option.some.inj h; omega) | cases h
  · cases h
theorem og_self (ρ : RS) : ogF (obF ρ ρ.2.2.2.2.2.1) ρ.2.2.2.2.2.2 = ρ := rfl
set_option maxHeartbeats 4000000 in
set_option maxRecDepth 100000 in
theorem r_piece {L : Nat} {tp : Nat → Int32} : ∀ (D : Nat), CM L tp mX1_readPiece [some (.ref 39)] (40 * D) D (pcF L tp D) := by
  intro D
  induction D with
  | zero =>
    intro X d rc rs n Q h ρ H Wf hd hq
    obtain ⟨wk, w96, wcl, wob, wog, wft⟩ := id Wf
    omega
  | succ D ih =>
    intro X d rc rs n Q h ρ H Wf hd hq
    obtain ⟨wk, w96, wcl, wob, wog, wft⟩ := id Wf
    have we := wk.1
    have wf := wk.2.1
    have wt := wk.2.2.1
    have hO := pc_ok (L := L) (tp := tp) D
    have hOr := r_or (P := pcF L tp D) (r_and (P := pcF L tp D) (r_test (P := pcF L tp D) (r_sum (P := pcF L tp D) (r_prod ih hO) (pd_ok hO)) (sm_ok hO)) (tsF_ok hO)) (an_ok hO)
    refine aw_dd (d2 := d + 40 * D + 40) (by omega) ?_
    refine aw_aload_n (npc := 1) rfl dX1_readPiece_0 rfl ?_
    obtain ⟨r1u, cd1u, Rd1u, m1_1, m2_1, m3_1, m4_1, m5_1, m7_1, m8_1, m9_1, m10_1, mc_1⟩ := id H
    refine aw_get (npc := 4) dX1_readPiece_1 rfl kf_X1_28 Rd1u.1 rfl ?_
    refine aw_top (y := fI ρ.2.1) (m4_1) ?_
    refine aw_if_lt (npc := 7) (tgt := 8) dX1_readPiece_4 rfl (by decide) (fun hc1 => ?_) (fun hc1 => ?_)
    · refine aw_aload_n (npc := 9) rfl dX1_readPiece_8 rfl ?_
      refine aw_get (npc := 12) dX1_readPiece_9 rfl kf_X1_22 Rd1u.1 rfl ?_
      refine aw_top (y := nI ρ.1.1) (m2_1) ?_
      refine aw_iconst (npc := 13) (v := 2) (by decide) dX1_readPiece_12 rfl ?_
      refine aw_icmp_ne (npc := 16) (tgt := 31) dX1_readPiece_13 rfl (by decide) (fun hc2 => ?_) (fun hc2 => ?_)
      · have hc2N : ¬ ρ.1.1 = 2 := fun z9q => hc2 ((nI_eq (a := ρ.1.1) (b := 2) (by omega) (by omega)).mpr z9q)
        rcases enm : nameO tp ρ with _ | j
        · refine aw_aload_n (npc := 32) rfl dX1_readPiece_31 rfl ?_
          refine aw_callV (npc := 35) (N := mX1_nameRead) (b := 39) (mc := 0) (ms := 0) (A := []) (S := []) (L0 := [some (.ref 39), none]) dX1_readPiece_32 rfl km_X1_nameRead kk_X1_131 Rd1u.1 ⟨by decide, rfl⟩ rfl ⟨rfl, by decide⟩ rfl (Nat.le_of_ble_eq_true rfl) (Nat.zero_add _) (Nat.zero_add _) rfl ?_
          refine r_name H Wf ?_
          refine aw_re (S' := [.int (bI (nameO tp ρ))]) rfl ?_
          refine aw_top (y := (-1)) (by rw [enm]; rfl) ?_
          refine aw_if_lt (npc := 38) (tgt := 55) dX1_readPiece_35 rfl (by decide) (fun _ => ?_) (fun hc => absurd (by decide) hc)
          refine aw_aload_n (npc := 56) rfl dX1_readPiece_55 rfl ?_
          refine aw_bipush (npc := 58) (v := 33) (by decide) dX1_readPiece_56 rfl ?_
          refine aw_callV (npc := 61) (N := mX1_isSign) (b := 39) (mc := 0) (ms := 0) (A := [.int 33]) (S := []) (L0 := [some (.ref 39), some (.int 33)]) dX1_readPiece_58 rfl km_X1_isSign kk_X1_105 Rd1u.1 ⟨by decide, rfl⟩ rfl ⟨rfl, by decide⟩ rfl (Nat.le_of_ble_eq_true rfl) (Nat.zero_add _) (Nat.zero_add _) rfl ?_
          refine r_isSign (c := 33) H Wf (fun hg3 => ?_) (fun hg3 => ?_)
          · refine aw_re (S' := [.int 1]) rfl ?_
            refine aw_if_eq (npc := 64) (tgt := 110) dX1_readPiece_61 rfl (by decide) (fun hc => absurd hc (by decide)) (fun _ => ?_)
            refine aw_aload_n (npc := 65) rfl dX1_readPiece_64 rfl ?_
            refine aw_get (npc := 68) dX1_readPiece_65 rfl kf_X1_47 Rd1u.1 rfl ?_
            refine aw_top (y := nI ρ.2.2.2.2.2.2) (m10_1) ?_
            refine aw_bipush (npc := 70) (v := 8) (by decide) dX1_readPiece_68 rfl ?_
            refine aw_icmp_ge (npc := 73) (tgt := 110) dX1_readPiece_70 rfl (by decide) (fun hc4 => ?_) (fun hc4 => ?_)
            · have hc4N := (nI_leI (a := 8) (b := ρ.2.2.2.2.2.2) (by omega) (by omega)).mp hc4
              refine aw_aload_n (npc := 111) rfl dX1_readPiece_110 rfl ?_
              refine aw_bipush (npc := 113) (v := 40) (by decide) dX1_readPiece_111 rfl ?_
              refine aw_callV (npc := 116) (N := mX1_isSign) (b := 39) (mc := 0) (ms := 0) (A := [.int 40]) (S := []) (L0 := [some (.ref 39), some (.int 40)]) dX1_readPiece_113 rfl km_X1_isSign kk_X1_105 Rd1u.1 ⟨by decide, rfl⟩ rfl ⟨rfl, by decide⟩ rfl (Nat.le_of_ble_eq_true rfl) (Nat.zero_add _) (Nat.zero_add _) rfl ?_
              refine r_isSign (c := 40) H Wf (fun hg5 => ?_) (fun hg5 => ?_)
              · refine aw_re (S' := [.int 1]) rfl ?_
                refine aw_if_eq (npc := 119) (tgt := 163) dX1_readPiece_116 rfl (by decide) (fun hc => absurd hc (by decide)) (fun _ => ?_)
                refine aw_aload_n (npc := 120) rfl dX1_readPiece_119 rfl ?_
                refine aw_get (npc := 123) dX1_readPiece_120 rfl kf_X1_44 Rd1u.1 rfl ?_
                refine aw_top (y := nI ρ.2.2.2.2.2.1) (m9_1) ?_
                refine aw_bipush (npc := 125) (v := 8) (by decide) dX1_readPiece_123 rfl ?_
                refine aw_icmp_ge (npc := 128) (tgt := 163) dX1_readPiece_125 rfl (by decide) (fun hc6 => ?_) (fun hc6 => ?_)
                · have hc6N := (nI_leI (a := 8) (b := ρ.2.2.2.2.2.1) (by omega) (by omega)).mp hc6
                  refine aw_aload_n (npc := 164) rfl dX1_readPiece_163 rfl ?_
                  refine aw_callV (npc := 167) (N := mX1_fail) (b := 39) (mc := 0) (ms := 0) (A := []) (S := []) (L0 := [some (.ref 39)]) dX1_readPiece_164 rfl km_X1_fail kk_X1_59 Rd1u.1 ⟨by decide, rfl⟩ rfl ⟨rfl, by decide⟩ rfl (Nat.le_of_ble_eq_true rfl) (Nat.zero_add _) (Nat.zero_add _) rfl ?_
                  refine r_fail  H Wf (fun hp7 Hr8 fz9 => ?_)
                  have fyfz9 : ∀ k, (k < 39 ∨ 43 ≤ k) → hp7 k = _ := fun k hk => fz9 k hk
                  have Wf10 : WR L tp (flF ρ) := wr_fl Wf
                  refine aw_vret rfl dX1_readPiece_167 ?_
                  refine hq _ (rx_c ?_ Hr8) (am_fpT (fun k (hk : k < 39 ∨ 43 ≤ k) => fyfz9 k (by omega)) am_fp0)
                  refine (Eq.trans ?_ (cI_t (show ρ.2.1 = none from (fI_neg wft).mp hc1)).symm)
                  refine (Eq.trans ?_ (cI_f hc2N).symm)
                  rw [enm]
                  refine (Eq.trans ?_ (cI_f (fun z => by have z2 := z.2; omega)).symm)
                  exact (cI_f (fun z => by have z2 := z.2; omega)).symm
                · have hc6N : ¬ 8 ≤ ρ.2.2.2.2.2.1 := fun z9q => hc6 ((nI_leI (a := 8) (b := ρ.2.2.2.2.2.1) (by omega) (by omega)).mpr z9q)
                  refine aw_aload_n (npc := 129) rfl dX1_readPiece_128 rfl ?_
                  refine aw_dup (npc := 130) rfl dX1_readPiece_129 rfl ?_
                  refine aw_get (npc := 133) dX1_readPiece_130 rfl kf_X1_44 Rd1u.1 rfl ?_
                  refine aw_top (y := nI ρ.2.2.2.2.2.1) (m9_1) ?_
                  refine aw_iconst (npc := 134) (v := 1) (by decide) dX1_readPiece_133 rfl ?_
                  refine aw_iaddV (npc := 135) (v := nI (ρ.2.2.2.2.2.1 + 1)) dX1_readPiece_134 rfl (nI_add _ 1) ?_
                  refine aw_put (npc := 138) dX1_readPiece_135 rfl kf_X1_44 Rd1u.1 (Nat.le_of_ble_eq_true rfl) (am_ok_int _) rfl ?_
                  have Rd11 := rd_r9 (v := nI (ρ.2.2.2.2.2.1 + 1)) Rd1u
                  have Hp12 : RX (obF ρ (ρ.2.2.2.2.2.1 + 1)) L tp _ := ⟨_, _, Rd11, (((pk_un (by omega))).trans m1_1), (((pk_un (by omega))).trans m2_1), (((pk_un (by omega))).trans m3_1), (((pk_un (by omega))).trans m4_1), (((pk_un (by omega))).trans m5_1), (((pk_un (by omega))).trans m7_1), (((pk_un (by omega))).trans m8_1), (pk_us), (((pk_un (by omega))).trans m10_1), mc_1⟩
                  have Wf13 : WR L tp (obF ρ (ρ.2.2.2.2.2.1 + 1)) := wr_ob (by omega) Wf
                  refine aw_aload_n (npc := 139) rfl dX1_readPiece_138 rfl ?_
                  obtain ⟨r2u, cd2u, Rd2u, m1_2, m2_2, m3_2, m4_2, m5_2, m7_2, m8_2, m9_2, m10_2, mc_2⟩ := id Hp12
                  refine aw_callV (npc := 142) (N := mX1_advance) (b := 39) (mc := 0) (ms := 0) (A := []) (S := []) (L0 := [some (.ref 39), none, none, none]) dX1_readPiece_139 rfl km_X1_advance kk_X1_50 Rd2u.1 ⟨by decide, rfl⟩ rfl ⟨rfl, by decide⟩ rfl (Nat.le_of_ble_eq_true rfl) (Nat.zero_add _) (Nat.zero_add _) rfl ?_
                  refine r_adv  Hp12 Wf13 (fun hp14 Hr15 fz16 => ?_)
                  have fyfz16 : ∀ k, (k < 39 ∨ 43 ≤ k) → hp14 k = _ := fun k hk => fz16 k hk
                  have Wf17 : WR L tp (avF L tp (obF ρ (ρ.2.2.2.2.2.1 + 1))) := wr_av Wf13
                  refine aw_aload_n (npc := 143) rfl dX1_readPiece_142 rfl ?_
                  obtain ⟨r3u, cd3u, Rd3u, m1_3, m2_3, m3_3, m4_3, m5_3, m7_3, m8_3, m9_3, m10_3, mc_3⟩ := id Hr15
                  refine aw_callV (npc := 146) (N := mX1_readOr) (b := 39) (mc := 0) (ms := 0) (A := []) (S := []) (L0 := [some (.ref 39), none]) dX1_readPiece_143 rfl km_X1_readOr kk_X1_56 Rd3u.1 ⟨by decide, rfl⟩ rfl ⟨rfl, by decide⟩ rfl (Nat.le_of_ble_eq_true rfl) (Nat.zero_add _) (Nat.zero_add _) rfl ?_
                  refine aw_dd (d2 := d + 14 + (40 * D + 25)) (by omega) ?_
                  refine hOr _ _ _ _ _ _ _ (avF L tp (obF ρ (ρ.2.2.2.2.2.1 + 1))) Hr15 Wf17 (by show 17 ≤ D + (ρ.2.2.2.2.2.1 + 1) + ρ.2.2.2.2.2.2; omega) (fun hp18 Hc19 fz20 => ?_)
                  have Wc21 := or_ok (pc_ok D) (avF L tp (obF ρ (ρ.2.2.2.2.2.1 + 1))) Wf17 (by show 17 ≤ D + (ρ.2.2.2.2.2.1 + 1) + ρ.2.2.2.2.2.2; omega)
                  have fyfz20 : ∀ k, (k < 39 ∨ 43 ≤ k) → hp18 k = _ := fun k hk => fz20 k hk
                  have eg9 : (orF L tp (pcF L tp D) (avF L tp (obF ρ (ρ.2.2.2.2.2.1 + 1)))).2.2.2.2.2.1 = ρ.2.2.2.2.2.1 + 1 := congrArg (fun z : Nat × Nat => z.1) Wc21.2.2
                  refine aw_aload_n (npc := 147) rfl dX1_readPiece_146 rfl ?_
                  refine aw_dup (npc := 148) rfl dX1_readPiece_147 rfl ?_
                  obtain ⟨r4u, cd4u, Rd4u, m1_4, m2_4, m3_4, m4_4, m5_4, m7_4, m8_4, m9_4, m10_4, mc_4⟩ := id Hc19
                  refine aw_get (npc := 151) dX1_readPiece_148 rfl kf_X1_44 Rd4u.1 rfl ?_
                  refine aw_top (y := nI (orF L tp (pcF L tp D) (avF L tp (obF ρ (ρ.2.2.2.2.2.1 + 1)))).2.2.2.2.2.1) (m9_4) ?_
                  refine aw_iconst (npc := 152) (v := 1) (by decide) dX1_readPiece_151 rfl ?_
                  refine aw_isubV (npc := 153) (v := nI ((orF L tp (pcF L tp D) (avF L tp (obF ρ (ρ.2.2.2.2.2.1 + 1)))).2.2.2.2.2.1 - 1)) dX1_readPiece_152 rfl (pk_sub (b := 1) (by omega)) ?_
                  refine aw_put (npc := 156) dX1_readPiece_153 rfl kf_X1_44 Rd4u.1 (Nat.le_of_ble_eq_true rfl) (am_ok_int _) rfl ?_
                  have Rd22 := rd_r9 (v := nI ((orF L tp (pcF L tp D) (avF L tp (obF ρ (ρ.2.2.2.2.2.1 + 1)))).2.2.2.2.2.1 - 1)) Rd4u
                  have Hp23 : RX (obF (orF L tp (pcF L tp D) (avF L tp (obF ρ (ρ.2.2.2.2.2.1 + 1)))) ρ.2.2.2.2.2.1) L tp _ := ⟨_, _, Rd22, (((pk_un (by omega))).trans m1_4), (((pk_un (by omega))).trans m2_4), (((pk_un (by omega))).trans m3_4), (((pk_un (by omega))).trans m4_4), (((pk_un (by omega))).trans m5_4), (((pk_un (by omega))).trans m7_4), (((pk_un (by omega))).trans m8_4), ((pk_us).trans (show nI ((orF L tp (pcF L tp D) (avF L tp (obF ρ (ρ.2.2.2.2.2.1 + 1)))).2.2.2.2.2.1 - 1) = nI ρ.2.2.2.2.2.1 from congrArg nI (by omega))), (((pk_un (by omega))).trans m10_4), mc_4⟩
                  have Wf24 : WR L tp (obF (orF L tp (pcF L tp D) (avF L tp (obF ρ (ρ.2.2.2.2.2.1 + 1)))) ρ.2.2.2.2.2.1) := wr_ob (by omega) Wc21.1
                  refine aw_aload_n (npc := 157) rfl dX1_readPiece_156 rfl ?_
                  obtain ⟨r5u, cd5u, Rd5u, m1_5, m2_5, m3_5, m4_5, m5_5, m7_5, m8_5, m9_5, m10_5, mc_5⟩ := id Hp23
                  refine aw_callV (npc := 160) (N := mX1_closeBracket) (b := 39) (mc := 0) (ms := 0) (A := []) (S := []) (L0 := [some (.ref 39)]) dX1_readPiece_157 rfl km_X1_closeBracket kk_X1_134 Rd5u.1 ⟨by decide, rfl⟩ rfl ⟨rfl, by decide⟩ rfl (Nat.le_of_ble_eq_true rfl) (Nat.zero_add _) (Nat.zero_add _) rfl ?_
                  refine r_close  Hp23 Wf24 (fun hp25 Hr26 fz27 => ?_)
                  have fyfz27 : ∀ k, (k < 39 ∨ 43 ≤ k) → hp25 k = _ := fun k hk => fz27 k hk
                  have Wf28 : WR L tp (cbF L tp (obF (orF L tp (pcF L tp D) (avF L tp (obF ρ (ρ.2.2.2.2.2.1 + 1)))) ρ.2.2.2.2.2.1)) := wr_cb Wf24
                  refine aw_goto (npc := 167) dX1_readPiece_160 (by decide) ?_
                  refine aw_vret rfl dX1_readPiece_167 ?_
                  refine hq _ (rx_c ?_ Hr26) (am_fpT (fun k (hk : k < 39 ∨ 43 ≤ k) => fyfz27 k (by omega)) (am_fpU (show ¬ (39 < 39 ∨ 43 ≤ 39) by omega) (am_fpT (fun k (hk : k < 39 ∨ 43 ≤ k) => fyfz20 k (by omega)) (am_fpT (fun k (hk : k < 39 ∨ 43 ≤ k) => fyfz16 k (by omega)) (am_fpU (show ¬ (39 < 39 ∨ 43 ≤ 39) by omega) am_fp0)))))
                  refine (Eq.trans ?_ (cI_t (show ρ.2.1 = none from (fI_neg wft).mp hc1)).symm)
                  refine (Eq.trans ?_ (cI_f hc2N).symm)
                  rw [enm]
                  refine (Eq.trans ?_ (cI_f (fun z => by have z2 := z.2; omega)).symm)
                  exact (cI_t (⟨hg5, by omega⟩)).symm
              · refine aw_re (S' := [.int 0]) rfl ?_
                refine aw_if_eq (npc := 119) (tgt := 163) dX1_readPiece_116 rfl (by decide) (fun _ => ?_) (fun hc => absurd (by decide) hc)
                refine aw_aload_n (npc := 164) rfl dX1_readPiece_163 rfl ?_
                refine aw_callV (npc := 167) (N := mX1_fail) (b := 39) (mc := 0) (ms := 0) (A := []) (S := []) (L0 := [some (.ref 39)]) dX1_readPiece_164 rfl km_X1_fail kk_X1_59 Rd1u.1 ⟨by decide, rfl⟩ rfl ⟨rfl, by decide⟩ rfl (Nat.le_of_ble_eq_true rfl) (Nat.zero_add _) (Nat.zero_add _) rfl ?_
                refine r_fail  H Wf (fun hp29 Hr30 fz31 => ?_)
                have fyfz31 : ∀ k, (k < 39 ∨ 43 ≤ k) → hp29 k = _ := fun k hk => fz31 k hk
                have Wf32 : WR L tp (flF ρ) := wr_fl Wf
                refine aw_vret rfl dX1_readPiece_167 ?_
                refine hq _ (rx_c ?_ Hr30) (am_fpT (fun k (hk : k < 39 ∨ 43 ≤ k) => fyfz31 k (by omega)) am_fp0)
                refine (Eq.trans ?_ (cI_t (show ρ.2.1 = none from (fI_neg wft).mp hc1)).symm)
                refine (Eq.trans ?_ (cI_f hc2N).symm)
                rw [enm]
                refine (Eq.trans ?_ (cI_f (fun z => by have z2 := z.2; omega)).symm)
                exact (cI_f (fun z => hg5 z.1)).symm
            · have hc4N : ¬ 8 ≤ ρ.2.2.2.2.2.2 := fun z9q => hc4 ((nI_leI (a := 8) (b := ρ.2.2.2.2.2.2) (by omega) (by omega)).mpr z9q)
              refine aw_aload_n (npc := 74) rfl dX1_readPiece_73 rfl ?_
              refine aw_dup (npc := 75) rfl dX1_readPiece_74 rfl ?_
              refine aw_get (npc := 78) dX1_readPiece_75 rfl kf_X1_47 Rd1u.1 rfl ?_
              refine aw_top (y := nI ρ.2.2.2.2.2.2) (m10_1) ?_
              refine aw_iconst (npc := 79) (v := 1) (by decide) dX1_readPiece_78 rfl ?_
              refine aw_iaddV (npc := 80) (v := nI (ρ.2.2.2.2.2.2 + 1)) dX1_readPiece_79 rfl (nI_add _ 1) ?_
              refine aw_put (npc := 83) dX1_readPiece_80 rfl kf_X1_47 Rd1u.1 (Nat.le_of_ble_eq_true rfl) (am_ok_int _) rfl ?_
              have Rd33 := rd_r10 (v := nI (ρ.2.2.2.2.2.2 + 1)) Rd1u
              have Hp34 : RX (ogF ρ (ρ.2.2.2.2.2.2 + 1)) L tp _ := ⟨_, _, Rd33, (((pk_un (by omega))).trans m1_1), (((pk_un (by omega))).trans m2_1), (((pk_un (by omega))).trans m3_1), (((pk_un (by omega))).trans m4_1), (((pk_un (by omega))).trans m5_1), (((pk_un (by omega))).trans m7_1), (((pk_un (by omega))).trans m8_1), (((pk_un (by omega))).trans m9_1), (pk_us), mc_1⟩
              have Wf35 : WR L tp (ogF ρ (ρ.2.2.2.2.2.2 + 1)) := wr_og (by omega) Wf
              refine aw_aload_n (npc := 84) rfl dX1_readPiece_83 rfl ?_
              obtain ⟨r6u, cd6u, Rd6u, m1_6, m2_6, m3_6, m4_6, m5_6, m7_6, m8_6, m9_6, m10_6, mc_6⟩ := id Hp34
              refine aw_callV (npc := 87) (N := mX1_advance) (b := 39) (mc := 0) (ms := 0) (A := []) (S := []) (L0 := [some (.ref 39), none, none, none]) dX1_readPiece_84 rfl km_X1_advance kk_X1_50 Rd6u.1 ⟨by decide, rfl⟩ rfl ⟨rfl, by decide⟩ rfl (Nat.le_of_ble_eq_true rfl) (Nat.zero_add _) (Nat.zero_add _) rfl ?_
              refine r_adv  Hp34 Wf35 (fun hp36 Hr37 fz38 => ?_)
              have fyfz38 : ∀ k, (k < 39 ∨ 43 ≤ k) → hp36 k = _ := fun k hk => fz38 k hk
              have Wf39 : WR L tp (avF L tp (ogF ρ (ρ.2.2.2.2.2.2 + 1))) := wr_av Wf35
              refine aw_aload_n (npc := 88) rfl dX1_readPiece_87 rfl ?_
              obtain ⟨r7u, cd7u, Rd7u, m1_7, m2_7, m3_7, m4_7, m5_7, m7_7, m8_7, m9_7, m10_7, mc_7⟩ := id Hr37
              refine aw_callV (npc := 91) (N := mX1_readPiece) (b := 39) (mc := 0) (ms := 0) (A := []) (S := []) (L0 := [some (.ref 39)]) dX1_readPiece_88 rfl km_X1_readPiece kk_X1_122 Rd7u.1 ⟨by decide, rfl⟩ rfl ⟨rfl, by decide⟩ rfl (Nat.le_of_ble_eq_true rfl) (Nat.zero_add _) (Nat.zero_add _) rfl ?_
              refine aw_dd (d2 := d + 39 + 40 * D) (by omega) ?_
              refine ih _ _ _ _ _ _ _ (avF L tp (ogF ρ (ρ.2.2.2.2.2.2 + 1))) Hr37 Wf39 (by show 17 ≤ D + ρ.2.2.2.2.2.1 + (ρ.2.2.2.2.2.2 + 1); omega) (fun hp40 Hc41 fz42 => ?_)
              have Wc43 := pc_ok D (avF L tp (ogF ρ (ρ.2.2.2.2.2.2 + 1))) Wf39 (by show 17 ≤ D + ρ.2.2.2.2.2.1 + (ρ.2.2.2.2.2.2 + 1); omega)
              have fyfz42 : ∀ k, (k < 39 ∨ 43 ≤ k) → hp40 k = _ := fun k hk => fz42 k hk
              have eg9 : (pcF L tp D (avF L tp (ogF ρ (ρ.2.2.2.2.2.2 + 1)))).2.2.2.2.2.2 = ρ.2.2.2.2.2.2 + 1 := congrArg (fun z : Nat × Nat => z.2) Wc43.2.2
              refine aw_aload_n (npc := 92) rfl dX1_readPiece_91 rfl ?_
              refine aw_dup (npc := 93) rfl dX1_readPiece_92 rfl ?_
              obtain ⟨r8u, cd8u, Rd8u, m1_8, m2_8, m3_8, m4_8, m5_8, m7_8, m8_8, m9_8, m10_8, mc_8⟩ := id Hc41
              refine aw_get (npc := 96) dX1_readPiece_93 rfl kf_X1_47 Rd8u.1 rfl ?_
              refine aw_top (y := nI (pcF L tp D (avF L tp (ogF ρ (ρ.2.2.2.2.2.2 + 1)))).2.2.2.2.2.2) (m10_8) ?_
              refine aw_iconst (npc := 97) (v := 1) (by decide) dX1_readPiece_96 rfl ?_
              refine aw_isubV (npc := 98) (v := nI ((pcF L tp D (avF L tp (ogF ρ (ρ.2.2.2.2.2.2 + 1)))).2.2.2.2.2.2 - 1)) dX1_readPiece_97 rfl (pk_sub (b := 1) (by omega)) ?_
              refine aw_put (npc := 101) dX1_readPiece_98 rfl kf_X1_47 Rd8u.1 (Nat.le_of_ble_eq_true rfl) (am_ok_int _) rfl ?_
              have Rd44 := rd_r10 (v := nI ((pcF L tp D (avF L tp (ogF ρ (ρ.2.2.2.2.2.2 + 1)))).2.2.2.2.2.2 - 1)) Rd8u
              have Hp45 : RX (ogF (pcF L tp D (avF L tp (ogF ρ (ρ.2.2.2.2.2.2 + 1)))) ρ.2.2.2.2.2.2) L tp _ := ⟨_, _, Rd44, (((pk_un (by omega))).trans m1_8), (((pk_un (by omega))).trans m2_8), (((pk_un (by omega))).trans m3_8), (((pk_un (by omega))).trans m4_8), (((pk_un (by omega))).trans m5_8), (((pk_un (by omega))).trans m7_8), (((pk_un (by omega))).trans m8_8), (((pk_un (by omega))).trans m9_8), ((pk_us).trans (show nI ((pcF L tp D (avF L tp (ogF ρ (ρ.2.2.2.2.2.2 + 1)))).2.2.2.2.2.2 - 1) = nI ρ.2.2.2.2.2.2 from congrArg nI (by omega))), mc_8⟩
              have Wf46 : WR L tp (ogF (pcF L tp D (avF L tp (ogF ρ (ρ.2.2.2.2.2.2 + 1)))) ρ.2.2.2.2.2.2) := wr_og (by omega) Wc43.1
              refine aw_aload_n (npc := 102) rfl dX1_readPiece_101 rfl ?_
              refine aw_bipush (npc := 104) (v := -33) (by decide) dX1_readPiece_102 rfl ?_
              obtain ⟨r9u, cd9u, Rd9u, m1_9, m2_9, m3_9, m4_9, m5_9, m7_9, m8_9, m9_9, m10_9, mc_9⟩ := id Hp45
              refine aw_callV (npc := 107) (N := mX1_emit) (b := 39) (mc := 0) (ms := 0) (A := [.int (-33)]) (S := []) (L0 := [some (.ref 39), some (.int (-33))]) dX1_readPiece_104 rfl km_X1_emit kk_X1_109 Rd9u.1 ⟨by decide, rfl⟩ rfl ⟨rfl, by decide⟩ rfl (Nat.le_of_ble_eq_true rfl) (Nat.zero_add _) (Nat.zero_add _) rfl ?_
              refine r_emit (c := (-33)) Hp45 Wf46 (fun hp47 Hr48 fz49 => ?_)
              have fyfz49 : ∀ k, (k < 39 ∨ 43 ≤ k) → hp47 k = _ := fun k hk => fz49 k hk
              have Wf50 : WR L tp (emF (-33) (ogF (pcF L tp D (avF L tp (ogF ρ (ρ.2.2.2.2.2.2 + 1)))) ρ.2.2.2.2.2.2)) := wr_em Wf46
              refine aw_goto (npc := 167) dX1_readPiece_107 (by decide) ?_
              refine aw_vret rfl dX1_readPiece_167 ?_
              refine hq _ (rx_c ?_ Hr48) (am_fpT (fun k (hk : k < 39 ∨ 43 ≤ k) => fyfz49 k (by omega)) (am_fpU (show ¬ (39 < 39 ∨ 43 ≤ 39) by omega) (am_fpT (fun k (hk : k < 39 ∨ 43 ≤ k) => fyfz42 k (by omega)) (am_fpT (fun k (hk : k < 39 ∨ 43 ≤ k) => fyfz38 k (by omega)) (am_fpU (show ¬ (39 < 39 ∨ 43 ≤ 39) by omega) am_fp0)))))
              refine (Eq.trans ?_ (cI_t (show ρ.2.1 = none from (fI_neg wft).mp hc1)).symm)
              refine (Eq.trans ?_ (cI_f hc2N).symm)
              rw [enm]
              exact (cI_t ⟨hg3, by omega⟩).symm
          · refine aw_re (S' := [.int 0]) rfl ?_
            refine aw_if_eq (npc := 64) (tgt := 110) dX1_readPiece_61 rfl (by decide) (fun _ => ?_) (fun hc => absurd (by decide) hc)
            refine aw_aload_n (npc := 111) rfl dX1_readPiece_110 rfl ?_
            refine aw_bipush (npc := 113) (v := 40) (by decide) dX1_readPiece_111 rfl ?_
            refine aw_callV (npc := 116) (N := mX1_isSign) (b := 39) (mc := 0) (ms := 0) (A := [.int 40]) (S := []) (L0 := [some (.ref 39), some (.int 40)]) dX1_readPiece_113 rfl km_X1_isSign kk_X1_105 Rd1u.1 ⟨by decide, rfl⟩ rfl ⟨rfl, by decide⟩ rfl (Nat.le_of_ble_eq_true rfl) (Nat.zero_add _) (Nat.zero_add _) rfl ?_
            refine r_isSign (c := 40) H Wf (fun hg51 => ?_) (fun hg51 => ?_)
            · refine aw_re (S' := [.int 1]) rfl ?_
              refine aw_if_eq (npc := 119) (tgt := 163) dX1_readPiece_116 rfl (by decide) (fun hc => absurd hc (by decide)) (fun _ => ?_)
              refine aw_aload_n (npc := 120) rfl dX1_readPiece_119 rfl ?_
              refine aw_get (npc := 123) dX1_readPiece_120 rfl kf_X1_44 Rd1u.1 rfl ?_
              refine aw_top (y := nI ρ.2.2.2.2.2.1) (m9_1) ?_
              refine aw_bipush (npc := 125) (v := 8) (by decide) dX1_readPiece_123 rfl ?_
              refine aw_icmp_ge (npc := 128) (tgt := 163) dX1_readPiece_125 rfl (by decide) (fun hc52 => ?_) (fun hc52 => ?_)
              · have hc52N := (nI_leI (a := 8) (b := ρ.2.2.2.2.2.1) (by omega) (by omega)).mp hc52
                refine aw_aload_n (npc := 164) rfl dX1_readPiece_163 rfl ?_
                refine aw_callV (npc := 167) (N := mX1_fail) (b := 39) (mc := 0) (ms := 0) (A := []) (S := []) (L0 := [some (.ref 39)]) dX1_readPiece_164 rfl km_X1_fail kk_X1_59 Rd1u.1 ⟨by decide, rfl⟩ rfl ⟨rfl, by decide⟩ rfl (Nat.le_of_ble_eq_true rfl) (Nat.zero_add _) (Nat.zero_add _) rfl ?_
                refine r_fail  H Wf (fun hp53 Hr54 fz55 => ?_)
                have fyfz55 : ∀ k, (k < 39 ∨ 43 ≤ k) → hp53 k = _ := fun k hk => fz55 k hk
                have Wf56 : WR L tp (flF ρ) := wr_fl Wf
                refine aw_vret rfl dX1_readPiece_167 ?_
                refine hq _ (rx_c ?_ Hr54) (am_fpT (fun k (hk : k < 39 ∨ 43 ≤ k) => fyfz55 k (by omega)) am_fp0)
                refine (Eq.trans ?_ (cI_t (show ρ.2.1 = none from (fI_neg wft).mp hc1)).symm)
                refine (Eq.trans ?_ (cI_f hc2N).symm)
                rw [enm]
                refine (Eq.trans ?_ (cI_f (fun z => hg3 z.1)).symm)
                exact (cI_f (fun z => by have z2 := z.2; omega)).symm
              · have hc52N : ¬ 8 ≤ ρ.2.2.2.2.2.1 := fun z9q => hc52 ((nI_leI (a := 8) (b := ρ.2.2.2.2.2.1) (by omega) (by omega)).mpr z9q)
                refine aw_aload_n (npc := 129) rfl dX1_readPiece_128 rfl ?_
                refine aw_dup (npc := 130) rfl dX1_readPiece_129 rfl ?_
                refine aw_get (npc := 133) dX1_readPiece_130 rfl kf_X1_44 Rd1u.1 rfl ?_
                refine aw_top (y := nI ρ.2.2.2.2.2.1) (m9_1) ?_
                refine aw_iconst (npc := 134) (v := 1) (by decide) dX1_readPiece_133 rfl ?_
                refine aw_iaddV (npc := 135) (v := nI (ρ.2.2.2.2.2.1 + 1)) dX1_readPiece_134 rfl (nI_add _ 1) ?_
                refine aw_put (npc := 138) dX1_readPiece_135 rfl kf_X1_44 Rd1u.1 (Nat.le_of_ble_eq_true rfl) (am_ok_int _) rfl ?_
                have Rd57 := rd_r9 (v := nI (ρ.2.2.2.2.2.1 + 1)) Rd1u
                have Hp58 : RX (obF ρ (ρ.2.2.2.2.2.1 + 1)) L tp _ := ⟨_, _, Rd57, (((pk_un (by omega))).trans m1_1), (((pk_un (by omega))).trans m2_1), (((pk_un (by omega))).trans m3_1), (((pk_un (by omega))).trans m4_1), (((pk_un (by omega))).trans m5_1), (((pk_un (by omega))).trans m7_1), (((pk_un (by omega))).trans m8_1), (pk_us), (((pk_un (by omega))).trans m10_1), mc_1⟩
                have Wf59 : WR L tp (obF ρ (ρ.2.2.2.2.2.1 + 1)) := wr_ob (by omega) Wf
                refine aw_aload_n (npc := 139) rfl dX1_readPiece_138 rfl ?_
                obtain ⟨r10u, cd10u, Rd10u, m1_10, m2_10, m3_10, m4_10, m5_10, m7_10, m8_10, m9_10, m10_10, mc_10⟩ := id Hp58
                refine aw_callV (npc := 142) (N := mX1_advance) (b := 39) (mc := 0) (ms := 0) (A := []) (S := []) (L0 := [some (.ref 39), none, none, none]) dX1_readPiece_139 rfl km_X1_advance kk_X1_50 Rd10u.1 ⟨by decide, rfl⟩ rfl ⟨rfl, by decide⟩ rfl (Nat.le_of_ble_eq_true rfl) (Nat.zero_add _) (Nat.zero_add _) rfl ?_
                refine r_adv  Hp58 Wf59 (fun hp60 Hr61 fz62 => ?_)
                have fyfz62 : ∀ k, (k < 39 ∨ 43 ≤ k) → hp60 k = _ := fun k hk => fz62 k hk
                have Wf63 : WR L tp (avF L tp (obF ρ (ρ.2.2.2.2.2.1 + 1))) := wr_av Wf59
                refine aw_aload_n (npc := 143) rfl dX1_readPiece_142 rfl ?_
                obtain ⟨r11u, cd11u, Rd11u, m1_11, m2_11, m3_11, m4_11, m5_11, m7_11, m8_11, m9_11, m10_11, mc_11⟩ := id Hr61
                refine aw_callV (npc := 146) (N := mX1_readOr) (b := 39) (mc := 0) (ms := 0) (A := []) (S := []) (L0 := [some (.ref 39), none]) dX1_readPiece_143 rfl km_X1_readOr kk_X1_56 Rd11u.1 ⟨by decide, rfl⟩ rfl ⟨rfl, by decide⟩ rfl (Nat.le_of_ble_eq_true rfl) (Nat.zero_add _) (Nat.zero_add _) rfl ?_
                refine aw_dd (d2 := d + 14 + (40 * D + 25)) (by omega) ?_
                refine hOr _ _ _ _ _ _ _ (avF L tp (obF ρ (ρ.2.2.2.2.2.1 + 1))) Hr61 Wf63 (by show 17 ≤ D + (ρ.2.2.2.2.2.1 + 1) + ρ.2.2.2.2.2.2; omega) (fun hp64 Hc65 fz66 => ?_)
                have Wc67 := or_ok (pc_ok D) (avF L tp (obF ρ (ρ.2.2.2.2.2.1 + 1))) Wf63 (by show 17 ≤ D + (ρ.2.2.2.2.2.1 + 1) + ρ.2.2.2.2.2.2; omega)
                have fyfz66 : ∀ k, (k < 39 ∨ 43 ≤ k) → hp64 k = _ := fun k hk => fz66 k hk
                have eg9 : (orF L tp (pcF L tp D) (avF L tp (obF ρ (ρ.2.2.2.2.2.1 + 1)))).2.2.2.2.2.1 = ρ.2.2.2.2.2.1 + 1 := congrArg (fun z : Nat × Nat => z.1) Wc67.2.2
                refine aw_aload_n (npc := 147) rfl dX1_readPiece_146 rfl ?_
                refine aw_dup (npc := 148) rfl dX1_readPiece_147 rfl ?_
                obtain ⟨r12u, cd12u, Rd12u, m1_12, m2_12, m3_12, m4_12, m5_12, m7_12, m8_12, m9_12, m10_12, mc_12⟩ := id Hc65
                refine aw_get (npc := 151) dX1_readPiece_148 rfl kf_X1_44 Rd12u.1 rfl ?_
                refine aw_top (y := nI (orF L tp (pcF L tp D) (avF L tp (obF ρ (ρ.2.2.2.2.2.1 + 1)))).2.2.2.2.2.1) (m9_12) ?_
                refine aw_iconst (npc := 152) (v := 1) (by decide) dX1_readPiece_151 rfl ?_
                refine aw_isubV (npc := 153) (v := nI ((orF L tp (pcF L tp D) (avF L tp (obF ρ (ρ.2.2.2.2.2.1 + 1)))).2.2.2.2.2.1 - 1)) dX1_readPiece_152 rfl (pk_sub (b := 1) (by omega)) ?_
                refine aw_put (npc := 156) dX1_readPiece_153 rfl kf_X1_44 Rd12u.1 (Nat.le_of_ble_eq_true rfl) (am_ok_int _) rfl ?_
                have Rd68 := rd_r9 (v := nI ((orF L tp (pcF L tp D) (avF L tp (obF ρ (ρ.2.2.2.2.2.1 + 1)))).2.2.2.2.2.1 - 1)) Rd12u
                have Hp69 : RX (obF (orF L tp (pcF L tp D) (avF L tp (obF ρ (ρ.2.2.2.2.2.1 + 1)))) ρ.2.2.2.2.2.1) L tp _ := ⟨_, _, Rd68, (((pk_un (by omega))).trans m1_12), (((pk_un (by omega))).trans m2_12), (((pk_un (by omega))).trans m3_12), (((pk_un (by omega))).trans m4_12), (((pk_un (by omega))).trans m5_12), (((pk_un (by omega))).trans m7_12), (((pk_un (by omega))).trans m8_12), ((pk_us).trans (show nI ((orF L tp (pcF L tp D) (avF L tp (obF ρ (ρ.2.2.2.2.2.1 + 1)))).2.2.2.2.2.1 - 1) = nI ρ.2.2.2.2.2.1 from congrArg nI (by omega))), (((pk_un (by omega))).trans m10_12), mc_12⟩
                have Wf70 : WR L tp (obF (orF L tp (pcF L tp D) (avF L tp (obF ρ (ρ.2.2.2.2.2.1 + 1)))) ρ.2.2.2.2.2.1) := wr_ob (by omega) Wc67.1
                refine aw_aload_n (npc := 157) rfl dX1_readPiece_156 rfl ?_
                obtain ⟨r13u, cd13u, Rd13u, m1_13, m2_13, m3_13, m4_13, m5_13, m7_13, m8_13, m9_13, m10_13, mc_13⟩ := id Hp69
                refine aw_callV (npc := 160) (N := mX1_closeBracket) (b := 39) (mc := 0) (ms := 0) (A := []) (S := []) (L0 := [some (.ref 39)]) dX1_readPiece_157 rfl km_X1_closeBracket kk_X1_134 Rd13u.1 ⟨by decide, rfl⟩ rfl ⟨rfl, by decide⟩ rfl (Nat.le_of_ble_eq_true rfl) (Nat.zero_add _) (Nat.zero_add _) rfl ?_
                refine r_close  Hp69 Wf70 (fun hp71 Hr72 fz73 => ?_)
                have fyfz73 : ∀ k, (k < 39 ∨ 43 ≤ k) → hp71 k = _ := fun k hk => fz73 k hk
                have Wf74 : WR L tp (cbF L tp (obF (orF L tp (pcF L tp D) (avF L tp (obF ρ (ρ.2.2.2.2.2.1 + 1)))) ρ.2.2.2.2.2.1)) := wr_cb Wf70
                refine aw_goto (npc := 167) dX1_readPiece_160 (by decide) ?_
                refine aw_vret rfl dX1_readPiece_167 ?_
                refine hq _ (rx_c ?_ Hr72) (am_fpT (fun k (hk : k < 39 ∨ 43 ≤ k) => fyfz73 k (by omega)) (am_fpU (show ¬ (39 < 39 ∨ 43 ≤ 39) by omega) (am_fpT (fun k (hk : k < 39 ∨ 43 ≤ k) => fyfz66 k (by omega)) (am_fpT (fun k (hk : k < 39 ∨ 43 ≤ k) => fyfz62 k (by omega)) (am_fpU (show ¬ (39 < 39 ∨ 43 ≤ 39) by omega) am_fp0)))))
                refine (Eq.trans ?_ (cI_t (show ρ.2.1 = none from (fI_neg wft).mp hc1)).symm)
                refine (Eq.trans ?_ (cI_f hc2N).symm)
                rw [enm]
                refine (Eq.trans ?_ (cI_f (fun z => hg3 z.1)).symm)
                exact (cI_t (⟨hg51, by omega⟩)).symm
            · refine aw_re (S' := [.int 0]) rfl ?_
              refine aw_if_eq (npc := 119) (tgt := 163) dX1_readPiece_116 rfl (by decide) (fun _ => ?_) (fun hc => absurd (by decide) hc)
              refine aw_aload_n (npc := 164) rfl dX1_readPiece_163 rfl ?_
              refine aw_callV (npc := 167) (N := mX1_fail) (b := 39) (mc := 0) (ms := 0) (A := []) (S := []) (L0 := [some (.ref 39)]) dX1_readPiece_164 rfl km_X1_fail kk_X1_59 Rd1u.1 ⟨by decide, rfl⟩ rfl ⟨rfl, by decide⟩ rfl (Nat.le_of_ble_eq_true rfl) (Nat.zero_add _) (Nat.zero_add _) rfl ?_
              refine r_fail  H Wf (fun hp75 Hr76 fz77 => ?_)
              have fyfz77 : ∀ k, (k < 39 ∨ 43 ≤ k) → hp75 k = _ := fun k hk => fz77 k hk
              have Wf78 : WR L tp (flF ρ) := wr_fl Wf
              refine aw_vret rfl dX1_readPiece_167 ?_
              refine hq _ (rx_c ?_ Hr76) (am_fpT (fun k (hk : k < 39 ∨ 43 ≤ k) => fyfz77 k (by omega)) am_fp0)
              refine (Eq.trans ?_ (cI_t (show ρ.2.1 = none from (fI_neg wft).mp hc1)).symm)
              refine (Eq.trans ?_ (cI_f hc2N).symm)
              rw [enm]
              refine (Eq.trans ?_ (cI_f (fun z => hg3 z.1)).symm)
              exact (cI_f (fun z => hg51 z.1)).symm
        · have hj := nm_lt enm
          refine aw_aload_n (npc := 32) rfl dX1_readPiece_31 rfl ?_
          refine aw_callV (npc := 35) (N := mX1_nameRead) (b := 39) (mc := 0) (ms := 0) (A := []) (S := []) (L0 := [some (.ref 39), none]) dX1_readPiece_32 rfl km_X1_nameRead kk_X1_131 Rd1u.1 ⟨by decide, rfl⟩ rfl ⟨rfl, by decide⟩ rfl (Nat.le_of_ble_eq_true rfl) (Nat.zero_add _) (Nat.zero_add _) rfl ?_
          refine r_name H Wf ?_
          refine aw_re (S' := [.int (bI (nameO tp ρ))]) rfl ?_
          refine aw_top (y := nI j) (by rw [enm]; rfl) ?_
          refine aw_if_lt (npc := 38) (tgt := 55) dX1_readPiece_35 rfl (by decide) (fun hc => absurd hc (nI_pos (by omega))) (fun _ => ?_)
          refine aw_aload_n (npc := 39) rfl dX1_readPiece_38 rfl ?_
          refine aw_iconst (npc := 40) (v := -1) (by decide) dX1_readPiece_39 rfl ?_
          refine aw_aload_n (npc := 41) rfl dX1_readPiece_40 rfl ?_
          refine aw_callV (npc := 44) (N := mX1_nameRead) (b := 39) (mc := 0) (ms := 0) (A := []) (S := [.int (-1), .ref 39]) (L0 := [some (.ref 39), none]) dX1_readPiece_41 rfl km_X1_nameRead kk_X1_131 Rd1u.1 ⟨by decide, rfl⟩ rfl ⟨rfl, by decide⟩ rfl (Nat.le_of_ble_eq_true rfl) (Nat.zero_add _) (Nat.zero_add _) rfl ?_
          refine r_name H Wf ?_
          refine aw_re (S' := [.int (bI (nameO tp ρ)), .int (-1), .ref 39]) rfl ?_
          refine aw_top (y := nI j) (by rw [enm]; rfl) ?_
          refine aw_isub (npc := 45) dX1_readPiece_44 rfl ?_
          refine aw_callV (npc := 48) (N := mX1_emitOperand) (b := 39) (mc := 0) (ms := 0) (A := [.int ((-1) - (nI j))]) (S := []) (L0 := [some (.ref 39), some (.int ((-1) - (nI j)))]) dX1_readPiece_45 rfl km_X1_emitOperand kk_X1_128 Rd1u.1 ⟨by decide, rfl⟩ rfl ⟨rfl, by decide⟩ rfl (Nat.le_of_ble_eq_true rfl) (Nat.zero_add _) (Nat.zero_add _) rfl ?_
          refine r_eo (c := ((-1) - (nI j))) H Wf (fun hp80 Hr81 fz82 => ?_)
          have fyfz82 : ∀ k, (k < 39 ∨ 43 ≤ k) → hp80 k = _ := fun k hk => fz82 k hk
          have Wf83 : WR L tp (eoF ((-1) - (nI j)) ρ) := wr_eo Wf
          refine aw_aload_n (npc := 49) rfl dX1_readPiece_48 rfl ?_
          obtain ⟨r14u, cd14u, Rd14u, m1_14, m2_14, m3_14, m4_14, m5_14, m7_14, m8_14, m9_14, m10_14, mc_14⟩ := id Hr81
          refine aw_callV (npc := 52) (N := mX1_advance) (b := 39) (mc := 0) (ms := 0) (A := []) (S := []) (L0 := [some (.ref 39), none, none, none]) dX1_readPiece_49 rfl km_X1_advance kk_X1_50 Rd14u.1 ⟨by decide, rfl⟩ rfl ⟨rfl, by decide⟩ rfl (Nat.le_of_ble_eq_true rfl) (Nat.zero_add _) (Nat.zero_add _) rfl ?_
          refine r_adv  Hr81 Wf83 (fun hp84 Hr85 fz86 => ?_)
          have fyfz86 : ∀ k, (k < 39 ∨ 43 ≤ k) → hp84 k = _ := fun k hk => fz86 k hk
          have Wf87 : WR L tp (avF L tp (eoF ((-1) - (nI j)) ρ)) := wr_av Wf83
          refine aw_goto (npc := 167) dX1_readPiece_52 (by decide) ?_
          refine aw_vret rfl dX1_readPiece_167 ?_
          refine hq _ (rx_c ?_ Hr85) (am_fpT (fun k (hk : k < 39 ∨ 43 ≤ k) => fyfz86 k (by omega)) (am_fpT (fun k (hk : k < 39 ∨ 43 ≤ k) => fyfz82 k (by omega)) am_fp0))
          refine (Eq.trans ?_ (cI_t (show ρ.2.1 = none from (fI_neg wft).mp hc1)).symm)
          refine (Eq.trans ?_ (cI_f hc2N).symm)
          rw [enm]
      · have hc2N := (nI_eq (a := ρ.1.1) (b := 2) (by omega) (by omega)).mp hc2
        refine aw_aload_n (npc := 17) rfl dX1_readPiece_16 rfl ?_
        refine aw_aload_n (npc := 18) rfl dX1_readPiece_17 rfl ?_
        refine aw_callV (npc := 21) (N := mX1_numberRead) (b := 39) (mc := 0) (ms := 0) (A := []) (S := [.ref 39]) (L0 := [some (.ref 39), none, none]) dX1_readPiece_18 rfl km_X1_numberRead kk_X1_125 Rd1u.1 ⟨by decide, rfl⟩ rfl ⟨rfl, by decide⟩ rfl (Nat.le_of_ble_eq_true rfl) (Nat.zero_add _) (Nat.zero_add _) rfl ?_
        refine r_num H Wf ?_
        refine aw_re (S' := [.int (numF tp ρ), .ref 39]) rfl ?_
        refine aw_callV (npc := 24) (N := mX1_emitOperand) (b := 39) (mc := 0) (ms := 0) (A := [.int (numF tp ρ)]) (S := []) (L0 := [some (.ref 39), some (.int (numF tp ρ))]) dX1_readPiece_21 rfl km_X1_emitOperand kk_X1_128 Rd1u.1 ⟨by decide, rfl⟩ rfl ⟨rfl, by decide⟩ rfl (Nat.le_of_ble_eq_true rfl) (Nat.zero_add _) (Nat.zero_add _) rfl ?_
        refine r_eo (c := (numF tp ρ)) H Wf (fun hp88 Hr89 fz90 => ?_)
        have fyfz90 : ∀ k, (k < 39 ∨ 43 ≤ k) → hp88 k = _ := fun k hk => fz90 k hk
        have Wf91 : WR L tp (eoF (numF tp ρ) ρ) := wr_eo Wf
        refine aw_aload_n (npc := 25) rfl dX1_readPiece_24 rfl ?_
        obtain ⟨r15u, cd15u, Rd15u, m1_15, m2_15, m3_15, m4_15, m5_15, m7_15, m8_15, m9_15, m10_15, mc_15⟩ := id Hr89
        refine aw_callV (npc := 28) (N := mX1_advance) (b := 39) (mc := 0) (ms := 0) (A := []) (S := []) (L0 := [some (.ref 39), none, none, none]) dX1_readPiece_25 rfl km_X1_advance kk_X1_50 Rd15u.1 ⟨by decide, rfl⟩ rfl ⟨rfl, by decide⟩ rfl (Nat.le_of_ble_eq_true rfl) (Nat.zero_add _) (Nat.zero_add _) rfl ?_
        refine r_adv  Hr89 Wf91 (fun hp92 Hr93 fz94 => ?_)
        have fyfz94 : ∀ k, (k < 39 ∨ 43 ≤ k) → hp92 k = _ := fun k hk => fz94 k hk
        have Wf95 : WR L tp (avF L tp (eoF (numF tp ρ) ρ)) := wr_av Wf91
        refine aw_goto (npc := 167) dX1_readPiece_28 (by decide) ?_
        refine aw_vret rfl dX1_readPiece_167 ?_
        refine hq _ (rx_c ?_ Hr93) (am_fpT (fun k (hk : k < 39 ∨ 43 ≤ k) => fyfz94 k (by omega)) (am_fpT (fun k (hk : k < 39 ∨ 43 ≤ k) => fyfz90 k (by omega)) am_fp0))
        refine (Eq.trans ?_ (cI_t (show ρ.2.1 = none from (fI_neg wft).mp hc1)).symm)
        exact (cI_t hc2N).symm
    · refine aw_vret rfl dX1_readPiece_7 ?_
      exact hq _ (rx_c (cI_f (fun z => hc1 ((fI_neg wft).mpr z))).symm H) am_fp0
