noncomputable def mkK (sr sz : Nat → Int32) (s p v : Int32) : Prop := wi s 0 3 ∧ ¬ sr (fN s) = -1 ∧ wi p 0 (sz (fN s) - 1) ∧ ((sr (fN s) = 0 ∧ ¬ v = (-1000000005)) ∨ (sr (fN s) = 1 ∧ (v = (-1000000005) ∨ wi v (-99999) 99999)))
noncomputable def mkV (sr sz : Nat → Int32) (s p v : Int32) : Int32 := cI (wi s 0 3) (cI (sr (fN s) = -1) (-1000000011) (cI (wi p 0 (sz (fN s) - 1)) (cI (sr (fN s) = 0) (cI (v = (-1000000005)) (-1000000012) 1) (cI (v = (-1000000005)) 1 (cI (wi v (-99999) 99999) 1 (-1000000001)))) (-1000000013))) (-1000000001)
noncomputable def mkC (sr sz : Nat → Int32) (s p v : Int32) (cl : Nat → Int32) : Nat → Int32 := cI (mkK sr sz s p v) (upd cl (24 * fN s + fN p) (cI (sr (fN s) = 0) v.toInt16.toInt32 v)) cl
set_option maxHeartbeats 4000000 in
set_option maxRecDepth 100000 in
theorem C_mark {X : List Int32} {d rc rs n : Nat} {Q : am_Q} {h : am_H} {N : Nat → Int32} {tx : List Value} {lk mv : Nat → Int32} {ik wc : Int32} {fr c : Nat} {s : Int32} {p : Int32} {v : Int32} {sr sz cl : Nat → Int32} (O : OB ik wc h) (Rw : RW sr sz cl h) (hI : RI sr sz) (hq : ∀ v9 c9 h9, v9 = mkV sr sz s p v → c9 = mkC sr sz s p v cl → RW sr sz c9 h9 → am_fp (fun k => k < 46 ∨ 54 ≤ k) h9 h → Q (some (.int v9)) n h9) : AW X mX7_mark (d + 12) rc rs 0 [some (.ref 0), some (.int s), some (.int p), some (.int v), none] [] n h Q := by
  refine aw_iload_n (npc := 1) rfl dX7_mark_0 rfl ?_
  refine aw_callS (npc := 4) (N := mX7_isSheet) (mc := 0) (ms := 0) (A := [.int s]) (S := []) (L0 := [some (.int s)]) dX7_mark_1 rfl km_X7_isSheet kk_X7_204 rfl ⟨rfl, by decide⟩ rfl (Nat.le_of_ble_eq_true rfl) (Nat.zero_add _) (Nat.zero_add _) rfl ?_
  refine c_X7_isSheet (fun hw1 => ?_) (fun hw1 => ?_)
  · obtain ⟨sn, hsn, esn⟩ := wi_nI (H := 3) (by decide) (by decide) hw1
    subst esn
    have fsn : fN (nI sn) = sn := fN_nI (by omega)
    obtain ⟨hsr, z9, hz24, ez9⟩ := hI sn (by omega)
    refine aw_re (S' := [.int 1]) rfl ?_
    refine aw_if_ne (npc := 7) (tgt := 10) dX7_mark_4 rfl (by decide) (fun _ => ?_) (fun hc => absurd hc (by decide))
    refine aw_aload_n (npc := 11) rfl dX7_mark_10 rfl ?_
    refine aw_get (npc := 14) dX7_mark_11 rfl kf_X7_47 O.1 rfl ?_
    refine aw_iload_n (npc := 15) rfl dX7_mark_14 rfl ?_
    refine aw_aald (npc := 16) (j := sn) dX7_mark_15 rfl (by decide) O.2.1 (am_ix_nI (by omega)) (sh_at (by omega)) ?_
    refine aw_astore (npc := 18) (L' := [some (.ref 0), some (.int (nI sn)), some (.int p), some (.int v), some (.ref (46 + 2 * sn))]) dX7_mark_16 rfl (by decide) rfl rfl ?_
    refine aw_aload (npc := 20) rfl dX7_mark_18 rfl ?_
    refine aw_callV (npc := 23) (N := mX2_isMissing) (b := 46 + 2 * sn) (mc := 0) (ms := 0) (A := []) (S := []) (L0 := [some (.ref (46 + 2 * sn))]) dX7_mark_20 rfl km_X2_isMissing kk_X7_207 (Rw sn (by omega)).1 ⟨by decide, rfl⟩ rfl ⟨rfl, by decide⟩ rfl (Nat.le_of_ble_eq_true rfl) (Nat.zero_add _) (Nat.zero_add _) rfl ?_
    refine aw_aload_n (npc := 1) rfl dX2_isMissing_0 rfl ?_
    refine aw_get (npc := 4) dX2_isMissing_1 rfl kf_X2_9 (Rw sn (by omega)).1 rfl ?_
    rcases wi_cm1_1 hsr with esr | esr | esr
    · refine aw_top (y := -1) esr ?_
      refine aw_iconst (npc := 5) (v := -1) (by decide) dX2_isMissing_4 rfl ?_
      refine aw_icmp_ne (npc := 8) (tgt := 12) dX2_isMissing_5 rfl (by decide) (fun hc => absurd (by decide) hc) (fun _ => ?_)
      refine aw_iconst (npc := 9) (v := 1) (by decide) dX2_isMissing_8 rfl ?_
      refine aw_goto (npc := 13) dX2_isMissing_9 (by decide) ?_
      refine aw_zret rfl rfl dX2_isMissing_13 ?_
      refine aw_re (S' := [.int 1]) rfl ?_
      refine aw_if_eq (npc := 26) (tgt := 29) dX7_mark_23 rfl (by decide) (fun hc => absurd hc (by decide)) (fun _ => ?_)
      refine aw_ldc (npc := 28) kc_X7_210 dX7_mark_26 rfl ?_
      refine aw_iret rfl dX7_mark_28 ?_
      exact hq _ _ _ (by simp [mkK, mkV, mkC, cI, hw1, fsn, esr]) (by simp [mkK, mkV, mkC, cI, hw1, fsn, esr]) Rw am_fp0
    · refine aw_top (y := 0) esr ?_
      refine aw_iconst (npc := 5) (v := -1) (by decide) dX2_isMissing_4 rfl ?_
      refine aw_icmp_ne (npc := 8) (tgt := 12) dX2_isMissing_5 rfl (by decide) (fun _ => ?_) (fun hc => absurd hc (by decide))
      refine aw_iconst (npc := 13) (v := 0) (by decide) dX2_isMissing_12 rfl ?_
      refine aw_zret rfl rfl dX2_isMissing_13 ?_
      refine aw_re (S' := [.int 0]) rfl ?_
      refine aw_if_eq (npc := 26) (tgt := 29) dX7_mark_23 rfl (by decide) (fun _ => ?_) (fun hc => absurd (by decide) hc)
      refine aw_aload (npc := 31) rfl dX7_mark_29 rfl ?_
      refine aw_iload_n (npc := 32) rfl dX7_mark_31 rfl ?_
      refine aw_callV (npc := 35) (N := mX2_isPlace) (b := 46 + 2 * sn) (mc := 0) (ms := 0) (A := [.int p]) (S := []) (L0 := [some (.ref (46 + 2 * sn)), some (.int p)]) dX7_mark_32 rfl km_X2_isPlace kk_X7_275 (Rw sn (by omega)).1 ⟨by decide, rfl⟩ rfl ⟨rfl, by decide⟩ rfl (Nat.le_of_ble_eq_true rfl) (Nat.zero_add _) (Nat.zero_add _) rfl ?_
      refine aw_iload_n (npc := 1) rfl dX2_isPlace_0 rfl ?_
      refine aw_iconst (npc := 2) (v := 0) (by decide) dX2_isPlace_1 rfl ?_
      refine aw_aload_n (npc := 3) rfl dX2_isPlace_2 rfl ?_
      refine aw_get (npc := 6) dX2_isPlace_3 rfl kf_X2_15 (Rw sn (by omega)).1 rfl ?_
      refine aw_iconst (npc := 7) (v := 1) (by decide) dX2_isPlace_6 rfl ?_
      refine aw_isub (npc := 8) dX2_isPlace_7 rfl ?_
      refine aw_callSN (npc := 11) (N := mX7_within) (mc := 0) (ms := 0) (A := [.int p, .int 0, .int ((sz sn) - 1)]) (S := []) (L0 := [some (.int p), some (.int 0), some (.int ((sz sn) - 1))]) dX2_isPlace_8 rfl km_X7_within kk_X2_34 rfl ⟨rfl, by decide⟩ rfl (Nat.le_of_ble_eq_true rfl) (Nat.zero_add _) (Nat.zero_add _) rfl ?_
      refine c_X7_within (fun hw2 => ?_) (fun hw2 => ?_)
      · obtain ⟨pn, hpn, epn⟩ := wi_idx ez9 (by omega) hw2
        subst epn
        have fpn : fN (nI pn) = pn := fN_nI (by omega)
        refine aw_re (S' := [.int 1]) rfl ?_
        refine aw_zret rfl rfl dX2_isPlace_11 ?_
        refine aw_re (S' := [.int 1]) rfl ?_
        refine aw_if_ne (npc := 38) (tgt := 42) dX7_mark_35 rfl (by decide) (fun _ => ?_) (fun hc => absurd hc (by decide))
        refine aw_aload (npc := 44) rfl dX7_mark_42 rfl ?_
        refine aw_get (npc := 47) dX7_mark_44 rfl kf_X7_279 (Rw sn (by omega)).1 rfl ?_
        refine aw_top (y := 0) esr ?_
        refine aw_if_ne (npc := 50) (tgt := 70) dX7_mark_47 rfl (by decide) (fun hc => absurd (by decide) hc) (fun _ => ?_)
        refine aw_iload_n (npc := 51) rfl dX7_mark_50 rfl ?_
        refine aw_ldc (npc := 53) kc_X7_200 dX7_mark_51 rfl ?_
        refine aw_icmp_ne (npc := 56) (tgt := 59) dX7_mark_53 rfl (by decide) (fun hc3 => ?_) (fun hc3 => ?_)
        · refine aw_aload (npc := 61) rfl dX7_mark_59 rfl ?_
          refine aw_get (npc := 64) dX7_mark_61 rfl kf_X7_218 (Rw sn (by omega)).1 rfl ?_
          refine aw_iload_n (npc := 65) rfl dX7_mark_64 rfl ?_
          refine aw_iload_n (npc := 66) rfl dX7_mark_65 rfl ?_
          refine aw_i2s (npc := 67) dX7_mark_66 rfl ?_
          refine aw_iast (npc := 68) (j := pn) dX7_mark_67 rfl (Rw sn (by omega)).2 (am_ix_nI (by omega)) (by rw [tl_len]; omega) rfl ?_
          have Rw4 := rw_cell (s := sn) (j := pn) (v := v.toInt16.toInt32) Rw (by omega)
          have O5 := ob_out (a := 47 + 2 * sn) (c := .inl (0, (tl 24 (fun i => cl (24 * sn + i))).set pn v.toInt16.toInt32)) (by omega) O
          refine aw_iconst (npc := 69) (v := 1) (by decide) dX7_mark_68 rfl ?_
          refine aw_iret rfl dX7_mark_69 ?_
          exact hq _ _ _ (by simp [mkK, mkV, mkC, cI, hw1, hw2, hc3, fsn, fpn, esr]) (by simp [mkK, mkV, mkC, cI, hw1, hw2, hc3, fsn, fpn, esr]) Rw4 (am_fpU (show ¬ ((47 + 2 * sn) < 46 ∨ 54 ≤ (47 + 2 * sn)) by omega) am_fp0)
        · subst hc3
          refine aw_ldc (npc := 58) kc_X7_123 dX7_mark_56 rfl ?_
          refine aw_iret rfl dX7_mark_58 ?_
          exact hq _ _ _ (by simp [mkK, mkV, mkC, cI, hw1, hw2, fsn, fpn, esr]) (by simp [mkK, mkV, mkC, cI, hw1, hw2, fsn, fpn, esr]) Rw am_fp0
      · refine aw_re (S' := [.int 0]) rfl ?_
        refine aw_zret rfl rfl dX2_isPlace_11 ?_
        refine aw_re (S' := [.int 0]) rfl ?_
        refine aw_if_ne (npc := 38) (tgt := 42) dX7_mark_35 rfl (by decide) (fun hc => absurd (by decide) hc) (fun _ => ?_)
        refine aw_ldcw (npc := 41) kc_X7_278 dX7_mark_38 rfl ?_
        refine aw_iret rfl dX7_mark_41 ?_
        exact hq _ _ _ (by simp [mkK, mkV, mkC, cI, hw1, hw2, fsn, esr]) (by simp [mkK, mkV, mkC, cI, hw1, hw2, fsn, esr]) Rw am_fp0
    · refine aw_top (y := 1) esr ?_
      refine aw_iconst (npc := 5) (v := -1) (by decide) dX2_isMissing_4 rfl ?_
      refine aw_icmp_ne (npc := 8) (tgt := 12) dX2_isMissing_5 rfl (by decide) (fun _ => ?_) (fun hc => absurd hc (by decide))
      refine aw_iconst (npc := 13) (v := 0) (by decide) dX2_isMissing_12 rfl ?_
      refine aw_zret rfl rfl dX2_isMissing_13 ?_
      refine aw_re (S' := [.int 0]) rfl ?_
      refine aw_if_eq (npc := 26) (tgt := 29) dX7_mark_23 rfl (by decide) (fun _ => ?_) (fun hc => absurd (by decide) hc)
      refine aw_aload (npc := 31) rfl dX7_mark_29 rfl ?_
      refine aw_iload_n (npc := 32) rfl dX7_mark_31 rfl ?_
      refine aw_callV (npc := 35) (N := mX2_isPlace) (b := 46 + 2 * sn) (mc := 0) (ms := 0) (A := [.int p]) (S := []) (L0 := [some (.ref (46 + 2 * sn)), some (.int p)]) dX7_mark_32 rfl km_X2_isPlace kk_X7_275 (Rw sn (by omega)).1 ⟨by decide, rfl⟩ rfl ⟨rfl, by decide⟩ rfl (Nat.le_of_ble_eq_true rfl) (Nat.zero_add _) (Nat.zero_add _) rfl ?_
      refine aw_iload_n (npc := 1) rfl dX2_isPlace_0 rfl ?_
      refine aw_iconst (npc := 2) (v := 0) (by decide) dX2_isPlace_1 rfl ?_
      refine aw_aload_n (npc := 3) rfl dX2_isPlace_2 rfl ?_
      refine aw_get (npc := 6) dX2_isPlace_3 rfl kf_X2_15 (Rw sn (by omega)).1 rfl ?_
      refine aw_iconst (npc := 7) (v := 1) (by decide) dX2_isPlace_6 rfl ?_
      refine aw_isub (npc := 8) dX2_isPlace_7 rfl ?_
      refine aw_callSN (npc := 11) (N := mX7_within) (mc := 0) (ms := 0) (A := [.int p, .int 0, .int ((sz sn) - 1)]) (S := []) (L0 := [some (.int p), some (.int 0), some (.int ((sz sn) - 1))]) dX2_isPlace_8 rfl km_X7_within kk_X2_34 rfl ⟨rfl, by decide⟩ rfl (Nat.le_of_ble_eq_true rfl) (Nat.zero_add _) (Nat.zero_add _) rfl ?_
      refine c_X7_within (fun hw6 => ?_) (fun hw6 => ?_)
      · obtain ⟨pn, hpn, epn⟩ := wi_idx ez9 (by omega) hw6
        subst epn
        have fpn : fN (nI pn) = pn := fN_nI (by omega)
        refine aw_re (S' := [.int 1]) rfl ?_
        refine aw_zret rfl rfl dX2_isPlace_11 ?_
        refine aw_re (S' := [.int 1]) rfl ?_
        refine aw_if_ne (npc := 38) (tgt := 42) dX7_mark_35 rfl (by decide) (fun _ => ?_) (fun hc => absurd hc (by decide))
        refine aw_aload (npc := 44) rfl dX7_mark_42 rfl ?_
        refine aw_get (npc := 47) dX7_mark_44 rfl kf_X7_279 (Rw sn (by omega)).1 rfl ?_
        refine aw_top (y := 1) esr ?_
        refine aw_if_ne (npc := 50) (tgt := 70) dX7_mark_47 rfl (by decide) (fun _ => ?_) (fun hc => absurd hc (by decide))
        refine aw_iload_n (npc := 71) rfl dX7_mark_70 rfl ?_
        refine aw_ldc (npc := 73) kc_X7_200 dX7_mark_71 rfl ?_
        refine aw_icmp_eq (npc := 76) (tgt := 92) dX7_mark_73 rfl (by decide) (fun hc7 => ?_) (fun hc7 => ?_)
        · subst hc7
          refine aw_aload (npc := 94) rfl dX7_mark_92 rfl ?_
          refine aw_get (npc := 97) dX7_mark_94 rfl kf_X7_218 (Rw sn (by omega)).1 rfl ?_
          refine aw_iload_n (npc := 98) rfl dX7_mark_97 rfl ?_
          refine aw_iload_n (npc := 99) rfl dX7_mark_98 rfl ?_
          refine aw_iast (npc := 100) (j := pn) dX7_mark_99 rfl (Rw sn (by omega)).2 (am_ix_nI (by omega)) (by rw [tl_len]; omega) rfl ?_
          have Rw8 := rw_cell (s := sn) (j := pn) (v := (-1000000005)) Rw (by omega)
          have O9 := ob_out (a := 47 + 2 * sn) (c := .inl (0, (tl 24 (fun i => cl (24 * sn + i))).set pn (-1000000005))) (by omega) O
          refine aw_iconst (npc := 101) (v := 1) (by decide) dX7_mark_100 rfl ?_
          refine aw_iret rfl dX7_mark_101 ?_
          exact hq _ _ _ (by simp [mkK, mkV, mkC, cI, hw1, hw6, fsn, fpn, esr]) (by simp [mkK, mkV, mkC, cI, hw1, hw6, fsn, fpn, esr]) Rw8 (am_fpU (show ¬ ((47 + 2 * sn) < 46 ∨ 54 ≤ (47 + 2 * sn)) by omega) am_fp0)
        · refine aw_iload_n (npc := 77) rfl dX7_mark_76 rfl ?_
          refine aw_ldcw (npc := 80) kc_X7_282 dX7_mark_77 rfl ?_
          refine aw_ldcw (npc := 83) kc_X7_283 dX7_mark_80 rfl ?_
          refine aw_callS (npc := 86) (N := mX7_within) (mc := 0) (ms := 0) (A := [.int v, .int (-99999), .int 99999]) (S := []) (L0 := [some (.int v), some (.int (-99999)), some (.int 99999)]) dX7_mark_83 rfl km_X7_within kk_X7_74 rfl ⟨rfl, by decide⟩ rfl (Nat.le_of_ble_eq_true rfl) (Nat.zero_add _) (Nat.zero_add _) rfl ?_
          refine c_X7_within (fun hw10 => ?_) (fun hw10 => ?_)
          · refine aw_re (S' := [.int 1]) rfl ?_
            refine aw_if_ne (npc := 89) (tgt := 92) dX7_mark_86 rfl (by decide) (fun _ => ?_) (fun hc => absurd hc (by decide))
            refine aw_aload (npc := 94) rfl dX7_mark_92 rfl ?_
            refine aw_get (npc := 97) dX7_mark_94 rfl kf_X7_218 (Rw sn (by omega)).1 rfl ?_
            refine aw_iload_n (npc := 98) rfl dX7_mark_97 rfl ?_
            refine aw_iload_n (npc := 99) rfl dX7_mark_98 rfl ?_
            refine aw_iast (npc := 100) (j := pn) dX7_mark_99 rfl (Rw sn (by omega)).2 (am_ix_nI (by omega)) (by rw [tl_len]; omega) rfl ?_
            have Rw11 := rw_cell (s := sn) (j := pn) (v := v) Rw (by omega)
            have O12 := ob_out (a := 47 + 2 * sn) (c := .inl (0, (tl 24 (fun i => cl (24 * sn + i))).set pn v)) (by omega) O
            refine aw_iconst (npc := 101) (v := 1) (by decide) dX7_mark_100 rfl ?_
            refine aw_iret rfl dX7_mark_101 ?_
            exact hq _ _ _ (by simp [mkK, mkV, mkC, cI, hw1, hw6, hc7, hw10, fsn, fpn, esr]) (by simp [mkK, mkV, mkC, cI, hw1, hw6, hc7, hw10, fsn, fpn, esr]) Rw11 (am_fpU (show ¬ ((47 + 2 * sn) < 46 ∨ 54 ≤ (47 + 2 * sn)) by omega) am_fp0)
          · refine aw_re (S' := [.int 0]) rfl ?_
            refine aw_if_ne (npc := 89) (tgt := 92) dX7_mark_86 rfl (by decide) (fun hc => absurd (by decide) hc) (fun _ => ?_)
            refine aw_ldc (npc := 91) kc_X7_78 dX7_mark_89 rfl ?_
            refine aw_iret rfl dX7_mark_91 ?_
            exact hq _ _ _ (by simp [mkK, mkV, mkC, cI, hw1, hw6, hc7, hw10, fsn, fpn, esr]) (by simp [mkK, mkV, mkC, cI, hw1, hw6, hc7, hw10, fsn, fpn, esr]) Rw am_fp0
      · refine aw_re (S' := [.int 0]) rfl ?_
        refine aw_zret rfl rfl dX2_isPlace_11 ?_
        refine aw_re (S' := [.int 0]) rfl ?_
        refine aw_if_ne (npc := 38) (tgt := 42) dX7_mark_35 rfl (by decide) (fun hc => absurd (by decide) hc) (fun _ => ?_)
        refine aw_ldcw (npc := 41) kc_X7_278 dX7_mark_38 rfl ?_
        refine aw_iret rfl dX7_mark_41 ?_
        exact hq _ _ _ (by simp [mkK, mkV, mkC, cI, hw1, hw6, fsn, esr]) (by simp [mkK, mkV, mkC, cI, hw1, hw6, fsn, esr]) Rw am_fp0
  · refine aw_re (S' := [.int 0]) rfl ?_
    refine aw_if_ne (npc := 7) (tgt := 10) dX7_mark_4 rfl (by decide) (fun hc => absurd (by decide) hc) (fun _ => ?_)
    refine aw_ldc (npc := 9) kc_X7_78 dX7_mark_7 rfl ?_
    refine aw_iret rfl dX7_mark_9 ?_
    exact hq _ _ _ (by simp [mkK, mkV, mkC, cI, hw1]) (by simp [mkK, mkV, mkC, cI, hw1]) Rw am_fp0
set_option maxHeartbeats 4000000 in
set_option maxRecDepth 100000 in
theorem M_mark {X : List Int32} {d rc rs n : Nat} {Q : am_Q} {h : am_H} {o N : Nat → Int32} {a : Nat → Nat → Int32} {fr c : Nat} {s : Int32} {p : Int32} {v : Int32} (F : MR o N a h) (hI : RI (a 83) (a 84)) (hq : ∀ v9 a9 h9, v9 = mkV (a 83) (a 84) s p v → a9 85 = mkC (a 83) (a 84) s p v (a 85) → (∀ c, c ≠ 85 → a9 c = a c) → MR o N a9 h9 → am_fp (fun k => k < 69 ∨ 92 ≤ k) h9 h → Q (some (.int v9)) n h9) : AW X mX8_mark (d + 12) rc rs 0 [some (.ref 69), some (.int s), some (.int p), some (.int v)] [] n h Q := by
  refine aw_iload_n (npc := 1) rfl dX8_mark_0 rfl ?_
  refine aw_callS (npc := 4) (N := mX8_isSheet) (mc := 0) (ms := 0) (A := [.int s]) (S := []) (L0 := [some (.int s)]) dX8_mark_1 rfl km_X8_isSheet kk_X8_184 rfl ⟨rfl, by decide⟩ rfl (Nat.le_of_ble_eq_true rfl) (Nat.zero_add _) (Nat.zero_add _) rfl ?_
  refine c_X8_isSheet (fun hw1 => ?_) (fun hw1 => ?_)
  · obtain ⟨sn, hsn, esn⟩ := wi_nI (H := 3) (by decide) (by decide) hw1
    subst esn
    have fsn : fN (nI sn) = sn := fN_nI (by omega)
    obtain ⟨hsr, z9, hz24, ez9⟩ := hI sn (by omega)
    refine aw_re (S' := [.int 1]) rfl ?_
    refine aw_if_ne (npc := 7) (tgt := 10) dX8_mark_4 rfl (by decide) (fun _ => ?_) (fun hc => absurd hc (by decide))
    refine aw_aload_n (npc := 11) rfl dX8_mark_10 rfl ?_
    refine aw_get (npc := 14) dX8_mark_11 rfl kf_X8_55 F.1 rfl ?_
    refine aw_iload_n (npc := 15) rfl dX8_mark_14 rfl ?_
    refine aw_iald (npc := 16) (x := (a 83) sn) (j := sn) dX8_mark_15 rfl F.2.2.2.2.2.2.2.2.2.2.2.2.2.2.1 (am_ix_nI (by omega)) (tl_at (by omega)) ?_
    rcases wi_cm1_1 hsr with esr | esr | esr
    · refine aw_top (y := -1) esr ?_
      refine aw_if_ge (npc := 19) (tgt := 22) dX8_mark_16 rfl (by decide) (fun hc => absurd hc (by decide)) (fun _ => ?_)
      refine aw_ldc (npc := 21) kc_X8_187 dX8_mark_19 rfl ?_
      refine aw_iret rfl dX8_mark_21 ?_
      exact hq _ _ _ (by simp [mkK, mkV, mkC, cI, hw1, fsn, esr]) (by simp [mkK, mkV, mkC, cI, hw1, fsn, esr, aup_s]) (fun c hc => rfl) F am_fp0
    · refine aw_top (y := 0) esr ?_
      refine aw_if_ge (npc := 19) (tgt := 22) dX8_mark_16 rfl (by decide) (fun _ => ?_) (fun hc => absurd (by decide) hc)
      refine aw_iload_n (npc := 23) rfl dX8_mark_22 rfl ?_
      refine aw_iconst (npc := 24) (v := 0) (by decide) dX8_mark_23 rfl ?_
      refine aw_aload_n (npc := 25) rfl dX8_mark_24 rfl ?_
      refine aw_get (npc := 28) dX8_mark_25 rfl kf_X8_58 F.1 rfl ?_
      refine aw_iload_n (npc := 29) rfl dX8_mark_28 rfl ?_
      refine aw_iald (npc := 30) (x := (a 84) sn) (j := sn) dX8_mark_29 rfl F.2.2.2.2.2.2.2.2.2.2.2.2.2.2.2.1 (am_ix_nI (by omega)) (tl_at (by omega)) ?_
      refine aw_iconst (npc := 31) (v := 1) (by decide) dX8_mark_30 rfl ?_
      refine aw_isub (npc := 32) dX8_mark_31 rfl ?_
      refine aw_callS (npc := 35) (N := mX8_in) (mc := 0) (ms := 0) (A := [.int p, .int 0, .int (((a 84) sn) - 1)]) (S := []) (L0 := [some (.int p), some (.int 0), some (.int (((a 84) sn) - 1))]) dX8_mark_32 rfl km_X8_in kk_X8_83 rfl ⟨rfl, by decide⟩ rfl (Nat.le_of_ble_eq_true rfl) (Nat.zero_add _) (Nat.zero_add _) rfl ?_
      refine c_X8_in (fun hw2 => ?_) (fun hw2 => ?_)
      · obtain ⟨pn, hpn, epn⟩ := wi_idx ez9 (by omega) hw2
        subst epn
        have fpn : fN (nI pn) = pn := fN_nI (by omega)
        refine aw_re (S' := [.int 1]) rfl ?_
        refine aw_if_ne (npc := 38) (tgt := 42) dX8_mark_35 rfl (by decide) (fun _ => ?_) (fun hc => absurd hc (by decide))
        refine aw_aload_n (npc := 43) rfl dX8_mark_42 rfl ?_
        refine aw_get (npc := 46) dX8_mark_43 rfl kf_X8_55 F.1 rfl ?_
        refine aw_iload_n (npc := 47) rfl dX8_mark_46 rfl ?_
        refine aw_iald (npc := 48) (x := (a 83) sn) (j := sn) dX8_mark_47 rfl F.2.2.2.2.2.2.2.2.2.2.2.2.2.2.1 (am_ix_nI (by omega)) (tl_at (by omega)) ?_
        refine aw_top (y := 0) esr ?_
        refine aw_if_ne (npc := 51) (tgt := 60) dX8_mark_48 rfl (by decide) (fun hc => absurd (by decide) hc) (fun _ => ?_)
        refine aw_iload_n (npc := 52) rfl dX8_mark_51 rfl ?_
        refine aw_ldc (npc := 54) kc_X8_82 dX8_mark_52 rfl ?_
        refine aw_icmp_ne (npc := 57) (tgt := 60) dX8_mark_54 rfl (by decide) (fun hc3 => ?_) (fun hc3 => ?_)
        · refine aw_aload_n (npc := 61) rfl dX8_mark_60 rfl ?_
          refine aw_get (npc := 64) dX8_mark_61 rfl kf_X8_55 F.1 rfl ?_
          refine aw_iload_n (npc := 65) rfl dX8_mark_64 rfl ?_
          refine aw_iald (npc := 66) (x := (a 83) sn) (j := sn) dX8_mark_65 rfl F.2.2.2.2.2.2.2.2.2.2.2.2.2.2.1 (am_ix_nI (by omega)) (tl_at (by omega)) ?_
          refine aw_top (y := 0) esr ?_
          refine aw_iconst (npc := 67) (v := 1) (by decide) dX8_mark_66 rfl ?_
          refine aw_icmp_ne (npc := 70) (tgt := 92) dX8_mark_67 rfl (by decide) (fun _ => ?_) (fun hc => absurd hc (by decide))
          refine aw_aload_n (npc := 93) rfl dX8_mark_92 rfl ?_
          refine aw_get (npc := 96) dX8_mark_93 rfl kf_X8_61 F.1 rfl ?_
          refine aw_bipush (npc := 98) (v := 24) (by decide) dX8_mark_96 rfl ?_
          refine aw_iload_n (npc := 99) rfl dX8_mark_98 rfl ?_
          refine aw_imulV (npc := 100) (v := nI (24 * sn)) dX8_mark_99 rfl (pk_mul 24 _) ?_
          refine aw_iload_n (npc := 101) rfl dX8_mark_100 rfl ?_
          refine aw_iaddV (npc := 102) (v := nI ((24 * sn) + pn)) dX8_mark_101 rfl (nI_add _ _) ?_
          refine aw_aload_n (npc := 103) rfl dX8_mark_102 rfl ?_
          refine aw_get (npc := 106) dX8_mark_103 rfl kf_X8_55 F.1 rfl ?_
          refine aw_iload_n (npc := 107) rfl dX8_mark_106 rfl ?_
          refine aw_iald (npc := 108) (x := (a 83) sn) (j := sn) dX8_mark_107 rfl F.2.2.2.2.2.2.2.2.2.2.2.2.2.2.1 (am_ix_nI (by omega)) (tl_at (by omega)) ?_
          refine aw_top (y := 0) esr ?_
          refine aw_if_ne (npc := 111) (tgt := 116) dX8_mark_108 rfl (by decide) (fun hc => absurd (by decide) hc) (fun _ => ?_)
          refine aw_iload_n (npc := 112) rfl dX8_mark_111 rfl ?_
          refine aw_i2s (npc := 113) dX8_mark_112 rfl ?_
          refine aw_goto (npc := 117) dX8_mark_113 (by decide) ?_
          refine aw_iast (npc := 118) (j := ((24 * sn) + pn)) dX8_mark_117 rfl F.2.2.2.2.2.2.2.2.2.2.2.2.2.2.2.2.1 (am_ix_nI (by omega)) (by rw [tl_len]; omega) rfl ?_
          have F4 := mr_85 (j := ((24 * sn) + pn)) (v := v.toInt16.toInt32) F
          refine aw_iconst (npc := 119) (v := 1) (by decide) dX8_mark_118 rfl ?_
          refine aw_iret rfl dX8_mark_119 ?_
          exact hq _ _ _ (by simp [mkK, mkV, mkC, cI, hw1, hw2, hc3, fsn, fpn, esr]) (by simp [mkK, mkV, mkC, cI, hw1, hw2, hc3, fsn, fpn, esr, aup_s]) (fun c hc => aup_n hc) F4 (am_fpU (show ¬ (85 < 69 ∨ 92 ≤ 85) by omega) am_fp0)
        · subst hc3
          refine aw_ldc (npc := 59) kc_X8_134 dX8_mark_57 rfl ?_
          refine aw_iret rfl dX8_mark_59 ?_
          exact hq _ _ _ (by simp [mkK, mkV, mkC, cI, hw1, hw2, fsn, fpn, esr]) (by simp [mkK, mkV, mkC, cI, hw1, hw2, fsn, fpn, esr, aup_s]) (fun c hc => rfl) F am_fp0
      · refine aw_re (S' := [.int 0]) rfl ?_
        refine aw_if_ne (npc := 38) (tgt := 42) dX8_mark_35 rfl (by decide) (fun hc => absurd (by decide) hc) (fun _ => ?_)
        refine aw_ldcw (npc := 41) kc_X8_259 dX8_mark_38 rfl ?_
        refine aw_iret rfl dX8_mark_41 ?_
        exact hq _ _ _ (by simp [mkK, mkV, mkC, cI, hw1, hw2, fsn, esr]) (by simp [mkK, mkV, mkC, cI, hw1, hw2, fsn, esr, aup_s]) (fun c hc => rfl) F am_fp0
    · refine aw_top (y := 1) esr ?_
      refine aw_if_ge (npc := 19) (tgt := 22) dX8_mark_16 rfl (by decide) (fun _ => ?_) (fun hc => absurd (by decide) hc)
      refine aw_iload_n (npc := 23) rfl dX8_mark_22 rfl ?_
      refine aw_iconst (npc := 24) (v := 0) (by decide) dX8_mark_23 rfl ?_
      refine aw_aload_n (npc := 25) rfl dX8_mark_24 rfl ?_
      refine aw_get (npc := 28) dX8_mark_25 rfl kf_X8_58 F.1 rfl ?_
      refine aw_iload_n (npc := 29) rfl dX8_mark_28 rfl ?_
      refine aw_iald (npc := 30) (x := (a 84) sn) (j := sn) dX8_mark_29 rfl F.2.2.2.2.2.2.2.2.2.2.2.2.2.2.2.1 (am_ix_nI (by omega)) (tl_at (by omega)) ?_
      refine aw_iconst (npc := 31) (v := 1) (by decide) dX8_mark_30 rfl ?_
      refine aw_isub (npc := 32) dX8_mark_31 rfl ?_
      refine aw_callS (npc := 35) (N := mX8_in) (mc := 0) (ms := 0) (A := [.int p, .int 0, .int (((a 84) sn) - 1)]) (S := []) (L0 := [some (.int p), some (.int 0), some (.int (((a 84) sn) - 1))]) dX8_mark_32 rfl km_X8_in kk_X8_83 rfl ⟨rfl, by decide⟩ rfl (Nat.le_of_ble_eq_true rfl) (Nat.zero_add _) (Nat.zero_add _) rfl ?_
      refine c_X8_in (fun hw5 => ?_) (fun hw5 => ?_)
      · obtain ⟨pn, hpn, epn⟩ := wi_idx ez9 (by omega) hw5
        subst epn
        have fpn : fN (nI pn) = pn := fN_nI (by omega)
        refine aw_re (S' := [.int 1]) rfl ?_
        refine aw_if_ne (npc := 38) (tgt := 42) dX8_mark_35 rfl (by decide) (fun _ => ?_) (fun hc => absurd hc (by decide))
        refine aw_aload_n (npc := 43) rfl dX8_mark_42 rfl ?_
        refine aw_get (npc := 46) dX8_mark_43 rfl kf_X8_55 F.1 rfl ?_
        refine aw_iload_n (npc := 47) rfl dX8_mark_46 rfl ?_
        refine aw_iald (npc := 48) (x := (a 83) sn) (j := sn) dX8_mark_47 rfl F.2.2.2.2.2.2.2.2.2.2.2.2.2.2.1 (am_ix_nI (by omega)) (tl_at (by omega)) ?_
        refine aw_top (y := 1) esr ?_
        refine aw_if_ne (npc := 51) (tgt := 60) dX8_mark_48 rfl (by decide) (fun _ => ?_) (fun hc => absurd hc (by decide))
        refine aw_aload_n (npc := 61) rfl dX8_mark_60 rfl ?_
        refine aw_get (npc := 64) dX8_mark_61 rfl kf_X8_55 F.1 rfl ?_
        refine aw_iload_n (npc := 65) rfl dX8_mark_64 rfl ?_
        refine aw_iald (npc := 66) (x := (a 83) sn) (j := sn) dX8_mark_65 rfl F.2.2.2.2.2.2.2.2.2.2.2.2.2.2.1 (am_ix_nI (by omega)) (tl_at (by omega)) ?_
        refine aw_top (y := 1) esr ?_
        refine aw_iconst (npc := 67) (v := 1) (by decide) dX8_mark_66 rfl ?_
        refine aw_icmp_ne (npc := 70) (tgt := 92) dX8_mark_67 rfl (by decide) (fun hc => absurd (by decide) hc) (fun _ => ?_)
        refine aw_iload_n (npc := 71) rfl dX8_mark_70 rfl ?_
        refine aw_ldc (npc := 73) kc_X8_82 dX8_mark_71 rfl ?_
        refine aw_icmp_eq (npc := 76) (tgt := 92) dX8_mark_73 rfl (by decide) (fun hc6 => ?_) (fun hc6 => ?_)
        · subst hc6
          refine aw_aload_n (npc := 93) rfl dX8_mark_92 rfl ?_
          refine aw_get (npc := 96) dX8_mark_93 rfl kf_X8_61 F.1 rfl ?_
          refine aw_bipush (npc := 98) (v := 24) (by decide) dX8_mark_96 rfl ?_
          refine aw_iload_n (npc := 99) rfl dX8_mark_98 rfl ?_
          refine aw_imulV (npc := 100) (v := nI (24 * sn)) dX8_mark_99 rfl (pk_mul 24 _) ?_
          refine aw_iload_n (npc := 101) rfl dX8_mark_100 rfl ?_
          refine aw_iaddV (npc := 102) (v := nI ((24 * sn) + pn)) dX8_mark_101 rfl (nI_add _ _) ?_
          refine aw_aload_n (npc := 103) rfl dX8_mark_102 rfl ?_
          refine aw_get (npc := 106) dX8_mark_103 rfl kf_X8_55 F.1 rfl ?_
          refine aw_iload_n (npc := 107) rfl dX8_mark_106 rfl ?_
          refine aw_iald (npc := 108) (x := (a 83) sn) (j := sn) dX8_mark_107 rfl F.2.2.2.2.2.2.2.2.2.2.2.2.2.2.1 (am_ix_nI (by omega)) (tl_at (by omega)) ?_
          refine aw_top (y := 1) esr ?_
          refine aw_if_ne (npc := 111) (tgt := 116) dX8_mark_108 rfl (by decide) (fun _ => ?_) (fun hc => absurd hc (by decide))
          refine aw_iload_n (npc := 117) rfl dX8_mark_116 rfl ?_
          refine aw_iast (npc := 118) (j := ((24 * sn) + pn)) dX8_mark_117 rfl F.2.2.2.2.2.2.2.2.2.2.2.2.2.2.2.2.1 (am_ix_nI (by omega)) (by rw [tl_len]; omega) rfl ?_
          have F7 := mr_85 (j := ((24 * sn) + pn)) (v := (-1000000005)) F
          refine aw_iconst (npc := 119) (v := 1) (by decide) dX8_mark_118 rfl ?_
          refine aw_iret rfl dX8_mark_119 ?_
          exact hq _ _ _ (by simp [mkK, mkV, mkC, cI, hw1, hw5, fsn, fpn, esr]) (by simp [mkK, mkV, mkC, cI, hw1, hw5, fsn, fpn, esr, aup_s]) (fun c hc => aup_n hc) F7 (am_fpU (show ¬ (85 < 69 ∨ 92 ≤ 85) by omega) am_fp0)
        · refine aw_iload_n (npc := 77) rfl dX8_mark_76 rfl ?_
          refine aw_ldcw (npc := 80) kc_X8_260 dX8_mark_77 rfl ?_
          refine aw_ldcw (npc := 83) kc_X8_261 dX8_mark_80 rfl ?_
          refine aw_callS (npc := 86) (N := mX8_in) (mc := 0) (ms := 0) (A := [.int v, .int (-99999), .int 99999]) (S := []) (L0 := [some (.int v), some (.int (-99999)), some (.int 99999)]) dX8_mark_83 rfl km_X8_in kk_X8_83 rfl ⟨rfl, by decide⟩ rfl (Nat.le_of_ble_eq_true rfl) (Nat.zero_add _) (Nat.zero_add _) rfl ?_
          refine c_X8_in (fun hw8 => ?_) (fun hw8 => ?_)
          · refine aw_re (S' := [.int 1]) rfl ?_
            refine aw_if_ne (npc := 89) (tgt := 92) dX8_mark_86 rfl (by decide) (fun _ => ?_) (fun hc => absurd hc (by decide))
            refine aw_aload_n (npc := 93) rfl dX8_mark_92 rfl ?_
            refine aw_get (npc := 96) dX8_mark_93 rfl kf_X8_61 F.1 rfl ?_
            refine aw_bipush (npc := 98) (v := 24) (by decide) dX8_mark_96 rfl ?_
            refine aw_iload_n (npc := 99) rfl dX8_mark_98 rfl ?_
            refine aw_imulV (npc := 100) (v := nI (24 * sn)) dX8_mark_99 rfl (pk_mul 24 _) ?_
            refine aw_iload_n (npc := 101) rfl dX8_mark_100 rfl ?_
            refine aw_iaddV (npc := 102) (v := nI ((24 * sn) + pn)) dX8_mark_101 rfl (nI_add _ _) ?_
            refine aw_aload_n (npc := 103) rfl dX8_mark_102 rfl ?_
            refine aw_get (npc := 106) dX8_mark_103 rfl kf_X8_55 F.1 rfl ?_
            refine aw_iload_n (npc := 107) rfl dX8_mark_106 rfl ?_
            refine aw_iald (npc := 108) (x := (a 83) sn) (j := sn) dX8_mark_107 rfl F.2.2.2.2.2.2.2.2.2.2.2.2.2.2.1 (am_ix_nI (by omega)) (tl_at (by omega)) ?_
            refine aw_top (y := 1) esr ?_
            refine aw_if_ne (npc := 111) (tgt := 116) dX8_mark_108 rfl (by decide) (fun _ => ?_) (fun hc => absurd hc (by decide))
            refine aw_iload_n (npc := 117) rfl dX8_mark_116 rfl ?_
            refine aw_iast (npc := 118) (j := ((24 * sn) + pn)) dX8_mark_117 rfl F.2.2.2.2.2.2.2.2.2.2.2.2.2.2.2.2.1 (am_ix_nI (by omega)) (by rw [tl_len]; omega) rfl ?_
            have F9 := mr_85 (j := ((24 * sn) + pn)) (v := v) F
            refine aw_iconst (npc := 119) (v := 1) (by decide) dX8_mark_118 rfl ?_
            refine aw_iret rfl dX8_mark_119 ?_
            exact hq _ _ _ (by simp [mkK, mkV, mkC, cI, hw1, hw5, hc6, hw8, fsn, fpn, esr]) (by simp [mkK, mkV, mkC, cI, hw1, hw5, hc6, hw8, fsn, fpn, esr, aup_s]) (fun c hc => aup_n hc) F9 (am_fpU (show ¬ (85 < 69 ∨ 92 ≤ 85) by omega) am_fp0)
          · refine aw_re (S' := [.int 0]) rfl ?_
            refine aw_if_ne (npc := 89) (tgt := 92) dX8_mark_86 rfl (by decide) (fun hc => absurd (by decide) hc) (fun _ => ?_)
            refine aw_ldc (npc := 91) kc_X8_91 dX8_mark_89 rfl ?_
            refine aw_iret rfl dX8_mark_91 ?_
            exact hq _ _ _ (by simp [mkK, mkV, mkC, cI, hw1, hw5, hc6, hw8, fsn, fpn, esr]) (by simp [mkK, mkV, mkC, cI, hw1, hw5, hc6, hw8, fsn, fpn, esr, aup_s]) (fun c hc => rfl) F am_fp0
      · refine aw_re (S' := [.int 0]) rfl ?_
        refine aw_if_ne (npc := 38) (tgt := 42) dX8_mark_35 rfl (by decide) (fun hc => absurd (by decide) hc) (fun _ => ?_)
        refine aw_ldcw (npc := 41) kc_X8_259 dX8_mark_38 rfl ?_
        refine aw_iret rfl dX8_mark_41 ?_
        exact hq _ _ _ (by simp [mkK, mkV, mkC, cI, hw1, hw5, fsn, esr]) (by simp [mkK, mkV, mkC, cI, hw1, hw5, fsn, esr, aup_s]) (fun c hc => rfl) F am_fp0
  · refine aw_re (S' := [.int 0]) rfl ?_
    refine aw_if_ne (npc := 7) (tgt := 10) dX8_mark_4 rfl (by decide) (fun hc => absurd (by decide) hc) (fun _ => ?_)
    refine aw_ldc (npc := 9) kc_X8_91 dX8_mark_7 rfl ?_
    refine aw_iret rfl dX8_mark_9 ?_
    exact hq _ _ _ (by simp [mkK, mkV, mkC, cI, hw1]) (by simp [mkK, mkV, mkC, cI, hw1, aup_s]) (fun c hc => rfl) F am_fp0
def SI (th kd zs : Nat → Int32) : Prop := ∀ s, s < 5 → wi (th s) 0 3 ∧ wi (kd s) 0 5 ∧ ∃ z, z ≤ 24 ∧ zs s = nI z
def SMI (hd hA : Nat → Int32) : Prop := ∀ s, s < 5 → wi (hd s) 0 3 ∧ (hd s = 1 → wi (hA s) 0 5) ∧ (hd s = 2 → ∃ z, z ≤ 24 ∧ hA s = nI z)
noncomputable def akC (th kd pr : Nat → Int32) (s k : Int32) : Int32 := cI (wi s 0 4 ∧ wi k 0 5) (cI (th (fN s) = 0) (-1000000011) (cI (th (fN s) = 1) (cI (undr (kd (fN s)) k = true) (wort (kd (fN s)) (pr (fN s))) (-1000000012)) (-1000000012))) (-1000000001)
noncomputable def akM (hd hA hB : Nat → Int32) (s k : Int32) : Int32 := cI (wi s 0 4 ∧ wi k 0 5) (cI (hd (fN s) = 0) (-1000000011) (cI (hd (fN s) = 1) (cI (undr (hA (fN s)) k = true) (hB (fN s)) (-1000000012)) (-1000000012))) (-1000000001)
noncomputable def itV (hd zs hc : Nat → Int32) (s p : Int32) : Int32 := cI (wi s 0 4) (cI (hd (fN s) = 0) (-1000000011) (cI (hd (fN s) = 2) (cI (wi p 0 (zs (fN s) - 1)) (cI (hc (24 * fN s + fN p) = (-1000000005)) (-1000000012) (hc (24 * fN s + fN p))) (-1000000013)) (-1000000012))) (-1000000001)
noncomputable def reV (hd nu : Nat → Int32) (s k : Int32) : Int32 := cI (wi s 0 4) (cI (hd (fN s) = 0) (-1000000011) (cI (hd (fN s) = 3) (cI (k = 0) (-1000000002) (nu (fN s) - nu (fN s) / k * k)) (-1000000012))) (-1000000001)
theorem rem_m1 (x : Int32) : x - x / (-1) * (-1) = 0 := by
  have e : x / (-1) = -x := by
    apply Int32.toInt_inj.mp
    have z : (-1 : Int32).toInt = -1 := by decide
    rw [Int32.toInt_div, z, Int.tdiv_neg, Int.tdiv_one, Int32.toInt_neg]
  rw [e, Int32.neg_mul, Int32.mul_neg, Int32.neg_neg, Int32.mul_one, Int32.sub_self]
set_option maxHeartbeats 4000000 in
set_option maxRecDepth 100000 in
theorem C_ask {X : List Int32} {d rc rs n : Nat} {Q : am_Q} {h : am_H} {N : Nat → Int32} {tx : List Value} {lk mv : Nat → Int32} {ik wc : Int32} {fr c : Nat} {s : Int32} {k : Int32} {th kd pr nu ss zs hc : Nat → Int32} (O : OB ik wc h) (Sl : SL th kd pr nu ss zs hc h) (hI : SI th kd zs) (hq : Q (some (.int (akC th kd pr s k))) n h) : AW X mX7_ask (d + 12) rc rs 0 [some (.ref 0), some (.int s), some (.int k), none] [] n h Q := by
  refine aw_iload_n (npc := 1) rfl dX7_ask_0 rfl ?_
  refine aw_callS (npc := 4) (N := mX7_isSlot) (mc := 0) (ms := 0) (A := [.int s]) (S := []) (L0 := [some (.int s)]) dX7_ask_1 rfl km_X7_isSlot kk_X7_299 rfl ⟨rfl, by decide⟩ rfl (Nat.le_of_ble_eq_true rfl) (Nat.zero_add _) (Nat.zero_add _) rfl ?_
  refine c_X7_isSlot (fun hw1 => ?_) (fun hw1 => ?_)
  · obtain ⟨sn, hsn, esn⟩ := wi_nI (H := 4) (by decide) (by decide) hw1
    subst esn
    have fsn : fN (nI sn) = sn := fN_nI (by omega)
    obtain ⟨hth, hkd, z9, hz24, ez9⟩ := hI sn (by omega)
    refine aw_re (S' := [.int 1]) rfl ?_
    refine aw_if_eq (npc := 7) (tgt := 14) dX7_ask_4 rfl (by decide) (fun hc => absurd hc (by decide)) (fun _ => ?_)
    refine aw_iload_n (npc := 8) rfl dX7_ask_7 rfl ?_
    refine aw_callS (npc := 11) (N := mX7_isKind) (mc := 0) (ms := 0) (A := [.int k]) (S := []) (L0 := [some (.int k)]) dX7_ask_8 rfl km_X7_isKind kk_X7_67 rfl ⟨rfl, by decide⟩ rfl (Nat.le_of_ble_eq_true rfl) (Nat.zero_add _) (Nat.zero_add _) rfl ?_
    refine c_X7_isKind (fun hw2 => ?_) (fun hw2 => ?_)
    · refine aw_re (S' := [.int 1]) rfl ?_
      refine aw_if_ne (npc := 14) (tgt := 17) dX7_ask_11 rfl (by decide) (fun _ => ?_) (fun hc => absurd hc (by decide))
      refine aw_aload_n (npc := 18) rfl dX7_ask_17 rfl ?_
      refine aw_get (npc := 21) dX7_ask_18 rfl kf_X7_53 O.1 rfl ?_
      refine aw_iload_n (npc := 22) rfl dX7_ask_21 rfl ?_
      refine aw_aald (npc := 23) (j := sn) dX7_ask_22 rfl (by decide) O.2.2 (am_ix_nI (by omega)) (sl_at (by omega)) ?_
      refine aw_astore_n (npc := 24) (L' := [some (.ref 0), some (.int (nI sn)), some (.int k), some (.ref (54 + 3 * sn))]) dX7_ask_23 rfl (by decide) rfl rfl ?_
      refine aw_aload_n (npc := 25) rfl dX7_ask_24 rfl ?_
      refine aw_get (npc := 28) dX7_ask_25 rfl kf_X7_302 (Sl sn (by omega)).1 rfl ?_
      rcases wi_c0_3 hth with eth | eth | eth | eth
      · refine aw_top (y := 0) eth ?_
        refine aw_if_ne (npc := 31) (tgt := 34) dX7_ask_28 rfl (by decide) (fun hc => absurd (by decide) hc) (fun _ => ?_)
        refine aw_ldc (npc := 33) kc_X7_210 dX7_ask_31 rfl ?_
        refine aw_iret rfl dX7_ask_33 ?_
        exact (show akC th kd pr (nI sn) k = (-1000000011) by simp [akC, cI, hw1, hw2, fsn, eth]) ▸ hq
      · refine aw_top (y := 1) eth ?_
        refine aw_if_ne (npc := 31) (tgt := 34) dX7_ask_28 rfl (by decide) (fun _ => ?_) (fun hc => absurd hc (by decide))
        refine aw_aload_n (npc := 35) rfl dX7_ask_34 rfl ?_
        refine aw_get (npc := 38) dX7_ask_35 rfl kf_X7_302 (Sl sn (by omega)).1 rfl ?_
        refine aw_top (y := 1) eth ?_
        refine aw_iconst (npc := 39) (v := 1) (by decide) dX7_ask_38 rfl ?_
        refine aw_icmp_ne (npc := 42) (tgt := 53) dX7_ask_39 rfl (by decide) (fun hc => absurd (by decide) hc) (fun _ => ?_)
        refine aw_aload_n (npc := 43) rfl dX7_ask_42 rfl ?_
        refine aw_get (npc := 46) dX7_ask_43 rfl kf_X7_305 (Sl sn (by omega)).1 rfl ?_
        refine aw_iload_n (npc := 47) rfl dX7_ask_46 rfl ?_
        refine aw_callS (npc := 50) (N := mX7_isUnder) (mc := 0) (ms := 0) (A := [.int (kd sn), .int k]) (S := []) (L0 := [some (.int (kd sn)), some (.int k), none, none]) dX7_ask_47 rfl km_X7_isUnder kk_X7_119 rfl ⟨rfl, by decide⟩ rfl (Nat.le_of_ble_eq_true rfl) (Nat.zero_add _) (Nat.zero_add _) rfl ?_
        refine c_X7_isUnder hkd hw2 ?_
        by_cases hu3 : undr (kd sn) k = true
        · refine aw_re (S' := [.int (if undr (kd sn) k then 1 else 0)]) rfl ?_
          refine aw_top (y := 1) (if_pos hu3) ?_
          refine aw_if_ne (npc := 53) (tgt := 56) dX7_ask_50 rfl (by decide) (fun _ => ?_) (fun hc => absurd hc (by decide))
          refine aw_aload_n (npc := 57) rfl dX7_ask_56 rfl ?_
          refine aw_get (npc := 60) dX7_ask_57 rfl kf_X7_305 (Sl sn (by omega)).1 rfl ?_
          refine aw_aload_n (npc := 61) rfl dX7_ask_60 rfl ?_
          refine aw_get (npc := 64) dX7_ask_61 rfl kf_X7_308 (Sl sn (by omega)).1 rfl ?_
          refine aw_callS (npc := 67) (N := mX7_worthOf) (mc := 0) (ms := 0) (A := [.int (kd sn), .int (pr sn)]) (S := []) (L0 := [some (.int (kd sn)), some (.int (pr sn))]) dX7_ask_64 rfl km_X7_worthOf kk_X7_115 rfl ⟨rfl, by decide⟩ rfl (Nat.le_of_ble_eq_true rfl) (Nat.zero_add _) (Nat.zero_add _) rfl ?_
          refine c_X7_worthOf ?_
          refine aw_re (S' := [.int (wort (kd sn) (pr sn))]) rfl ?_
          refine aw_iret rfl dX7_ask_67 ?_
          exact (show akC th kd pr (nI sn) k = (wort (kd sn) (pr sn)) by simp [akC, cI, hw1, hw2, hu3, fsn, eth]) ▸ hq
        · refine aw_re (S' := [.int (if undr (kd sn) k then 1 else 0)]) rfl ?_
          refine aw_top (y := 0) (if_neg hu3) ?_
          refine aw_if_ne (npc := 53) (tgt := 56) dX7_ask_50 rfl (by decide) (fun hc => absurd (by decide) hc) (fun _ => ?_)
          refine aw_ldc (npc := 55) kc_X7_123 dX7_ask_53 rfl ?_
          refine aw_iret rfl dX7_ask_55 ?_
          exact (show akC th kd pr (nI sn) k = (-1000000012) by simp [akC, cI, hw1, hw2, hu3, fsn, eth]) ▸ hq
      · refine aw_top (y := 2) eth ?_
        refine aw_if_ne (npc := 31) (tgt := 34) dX7_ask_28 rfl (by decide) (fun _ => ?_) (fun hc => absurd hc (by decide))
        refine aw_aload_n (npc := 35) rfl dX7_ask_34 rfl ?_
        refine aw_get (npc := 38) dX7_ask_35 rfl kf_X7_302 (Sl sn (by omega)).1 rfl ?_
        refine aw_top (y := 2) eth ?_
        refine aw_iconst (npc := 39) (v := 1) (by decide) dX7_ask_38 rfl ?_
        refine aw_icmp_ne (npc := 42) (tgt := 53) dX7_ask_39 rfl (by decide) (fun _ => ?_) (fun hc => absurd hc (by decide))
        refine aw_ldc (npc := 55) kc_X7_123 dX7_ask_53 rfl ?_
        refine aw_iret rfl dX7_ask_55 ?_
        exact (show akC th kd pr (nI sn) k = (-1000000012) by simp [akC, cI, hw1, hw2, fsn, eth]) ▸ hq
      · refine aw_top (y := 3) eth ?_
        refine aw_if_ne (npc := 31) (tgt := 34) dX7_ask_28 rfl (by decide) (fun _ => ?_) (fun hc => absurd hc (by decide))
        refine aw_aload_n (npc := 35) rfl dX7_ask_34 rfl ?_
        refine aw_get (npc := 38) dX7_ask_35 rfl kf_X7_302 (Sl sn (by omega)).1 rfl ?_
        refine aw_top (y := 3) eth ?_
        refine aw_iconst (npc := 39) (v := 1) (by decide) dX7_ask_38 rfl ?_
        refine aw_icmp_ne (npc := 42) (tgt := 53) dX7_ask_39 rfl (by decide) (fun _ => ?_) (fun hc => absurd hc (by decide))
        refine aw_ldc (npc := 55) kc_X7_123 dX7_ask_53 rfl ?_
        refine aw_iret rfl dX7_ask_55 ?_
        exact (show akC th kd pr (nI sn) k = (-1000000012) by simp [akC, cI, hw1, hw2, fsn, eth]) ▸ hq
    · refine aw_re (S' := [.int 0]) rfl ?_
      refine aw_if_ne (npc := 14) (tgt := 17) dX7_ask_11 rfl (by decide) (fun hc => absurd (by decide) hc) (fun _ => ?_)
      refine aw_ldc (npc := 16) kc_X7_78 dX7_ask_14 rfl ?_
      refine aw_iret rfl dX7_ask_16 ?_
      exact (show akC th kd pr (nI sn) k = (-1000000001) by simp [akC, cI, hw1, hw2, fsn]) ▸ hq
  · refine aw_re (S' := [.int 0]) rfl ?_
    refine aw_if_eq (npc := 7) (tgt := 14) dX7_ask_4 rfl (by decide) (fun _ => ?_) (fun hc => absurd (by decide) hc)
    refine aw_ldc (npc := 16) kc_X7_78 dX7_ask_14 rfl ?_
    refine aw_iret rfl dX7_ask_16 ?_
    exact (show akC th kd pr s k = (-1000000001) by simp [akC, cI, hw1]) ▸ hq
set_option maxHeartbeats 4000000 in
set_option maxRecDepth 100000 in
theorem M_ask {X : List Int32} {d rc rs n : Nat} {Q : am_Q} {h : am_H} {o N : Nat → Int32} {a : Nat → Nat → Int32} {fr c : Nat} {s : Int32} {k : Int32} (F : MR o N a h) (hI : SMI (a 86) (a 87)) (hq : Q (some (.int (akM (a 86) (a 87) (a 88) s k))) n h) : AW X mX8_ask (d + 12) rc rs 0 [some (.ref 69), some (.int s), some (.int k)] [] n h Q := by
  refine aw_iload_n (npc := 1) rfl dX8_ask_0 rfl ?_
  refine aw_callS (npc := 4) (N := mX8_isSlot) (mc := 0) (ms := 0) (A := [.int s]) (S := []) (L0 := [some (.int s)]) dX8_ask_1 rfl km_X8_isSlot kk_X8_262 rfl ⟨rfl, by decide⟩ rfl (Nat.le_of_ble_eq_true rfl) (Nat.zero_add _) (Nat.zero_add _) rfl ?_
  refine c_X8_isSlot (fun hw1 => ?_) (fun hw1 => ?_)
  · obtain ⟨sn, hsn, esn⟩ := wi_nI (H := 4) (by decide) (by decide) hw1
    subst esn
    have fsn : fN (nI sn) = sn := fN_nI (by omega)
    obtain ⟨hth, hkd, hzz⟩ := hI sn (by omega)
    refine aw_re (S' := [.int 1]) rfl ?_
    refine aw_if_eq (npc := 7) (tgt := 16) dX8_ask_4 rfl (by decide) (fun hc => absurd hc (by decide)) (fun _ => ?_)
    refine aw_iload_n (npc := 8) rfl dX8_ask_7 rfl ?_
    refine aw_iconst (npc := 9) (v := 0) (by decide) dX8_ask_8 rfl ?_
    refine aw_iconst (npc := 10) (v := 5) (by decide) dX8_ask_9 rfl ?_
    refine aw_callS (npc := 13) (N := mX8_in) (mc := 0) (ms := 0) (A := [.int k, .int 0, .int 5]) (S := []) (L0 := [some (.int k), some (.int 0), some (.int 5)]) dX8_ask_10 rfl km_X8_in kk_X8_83 rfl ⟨rfl, by decide⟩ rfl (Nat.le_of_ble_eq_true rfl) (Nat.zero_add _) (Nat.zero_add _) rfl ?_
    refine c_X8_in (fun hw2 => ?_) (fun hw2 => ?_)
    · refine aw_re (S' := [.int 1]) rfl ?_
      refine aw_if_ne (npc := 16) (tgt := 19) dX8_ask_13 rfl (by decide) (fun _ => ?_) (fun hc => absurd hc (by decide))
      refine aw_aload_n (npc := 20) rfl dX8_ask_19 rfl ?_
      refine aw_get (npc := 23) dX8_ask_20 rfl kf_X8_64 F.1 rfl ?_
      refine aw_iload_n (npc := 24) rfl dX8_ask_23 rfl ?_
      refine aw_iald (npc := 25) (x := (a 86) sn) (j := sn) dX8_ask_24 rfl F.2.2.2.2.2.2.2.2.2.2.2.2.2.2.2.2.2.1 (am_ix_nI (by omega)) (tl_at (by omega)) ?_
      rcases wi_c0_3 hth with eth | eth | eth | eth
      · refine aw_top (y := 0) eth ?_
        refine aw_if_ne (npc := 28) (tgt := 31) dX8_ask_25 rfl (by decide) (fun hc => absurd (by decide) hc) (fun _ => ?_)
        refine aw_ldc (npc := 30) kc_X8_187 dX8_ask_28 rfl ?_
        refine aw_iret rfl dX8_ask_30 ?_
        exact (show akM (a 86) (a 87) (a 88) (nI sn) k = (-1000000011) by simp [akM, cI, hw1, hw2, fsn, eth]) ▸ hq
      · refine aw_top (y := 1) eth ?_
        refine aw_if_ne (npc := 28) (tgt := 31) dX8_ask_25 rfl (by decide) (fun _ => ?_) (fun hc => absurd hc (by decide))
        refine aw_aload_n (npc := 32) rfl dX8_ask_31 rfl ?_
        refine aw_get (npc := 35) dX8_ask_32 rfl kf_X8_64 F.1 rfl ?_
        refine aw_iload_n (npc := 36) rfl dX8_ask_35 rfl ?_
        refine aw_iald (npc := 37) (x := (a 86) sn) (j := sn) dX8_ask_36 rfl F.2.2.2.2.2.2.2.2.2.2.2.2.2.2.2.2.2.1 (am_ix_nI (by omega)) (tl_at (by omega)) ?_
        refine aw_top (y := 1) eth ?_
        refine aw_iconst (npc := 38) (v := 1) (by decide) dX8_ask_37 rfl ?_
        refine aw_icmp_ne (npc := 41) (tgt := 63) dX8_ask_38 rfl (by decide) (fun hc => absurd (by decide) hc) (fun _ => ?_)
        refine aw_aload_n (npc := 42) rfl dX8_ask_41 rfl ?_
        refine aw_get (npc := 45) dX8_ask_42 rfl kf_X8_67 F.1 rfl ?_
        refine aw_iload_n (npc := 46) rfl dX8_ask_45 rfl ?_
        refine aw_iald (npc := 47) (x := (a 87) sn) (j := sn) dX8_ask_46 rfl F.2.2.2.2.2.2.2.2.2.2.2.2.2.2.2.2.2.2.1 (am_ix_nI (by omega)) (tl_at (by omega)) ?_
        refine aw_iload_n (npc := 48) rfl dX8_ask_47 rfl ?_
        refine aw_callS (npc := 51) (N := mX8_isUnder) (mc := 0) (ms := 0) (A := [.int ((a 87) sn), .int k]) (S := []) (L0 := [some (.int ((a 87) sn)), some (.int k)]) dX8_ask_48 rfl km_X8_isUnder kk_X8_130 rfl ⟨rfl, by decide⟩ rfl (Nat.le_of_ble_eq_true rfl) (Nat.zero_add _) (Nat.zero_add _) rfl ?_
        refine c_X8_isUnder (hkd eth) hw2 ?_
        by_cases hu3 : undr ((a 87) sn) k = true
        · refine aw_re (S' := [.int (if undr ((a 87) sn) k then 1 else 0)]) rfl ?_
          refine aw_top (y := 1) (if_pos hu3) ?_
          refine aw_if_eq (npc := 54) (tgt := 63) dX8_ask_51 rfl (by decide) (fun hc => absurd hc (by decide)) (fun _ => ?_)
          refine aw_aload_n (npc := 55) rfl dX8_ask_54 rfl ?_
          refine aw_get (npc := 58) dX8_ask_55 rfl kf_X8_70 F.1 rfl ?_
          refine aw_iload_n (npc := 59) rfl dX8_ask_58 rfl ?_
          refine aw_iald (npc := 60) (x := (a 88) sn) (j := sn) dX8_ask_59 rfl F.2.2.2.2.2.2.2.2.2.2.2.2.2.2.2.2.2.2.2.1 (am_ix_nI (by omega)) (tl_at (by omega)) ?_
          refine aw_goto (npc := 65) dX8_ask_60 (by decide) ?_
          refine aw_iret rfl dX8_ask_65 ?_
          exact (show akM (a 86) (a 87) (a 88) (nI sn) k = ((a 88) sn) by simp [akM, cI, hw1, hw2, hu3, fsn, eth]) ▸ hq
        · refine aw_re (S' := [.int (if undr ((a 87) sn) k then 1 else 0)]) rfl ?_
          refine aw_top (y := 0) (if_neg hu3) ?_
          refine aw_if_eq (npc := 54) (tgt := 63) dX8_ask_51 rfl (by decide) (fun _ => ?_) (fun hc => absurd (by decide) hc)
          refine aw_ldc (npc := 65) kc_X8_134 dX8_ask_63 rfl ?_
          refine aw_iret rfl dX8_ask_65 ?_
          exact (show akM (a 86) (a 87) (a 88) (nI sn) k = (-1000000012) by simp [akM, cI, hw1, hw2, hu3, fsn, eth]) ▸ hq
      · refine aw_top (y := 2) eth ?_
        refine aw_if_ne (npc := 28) (tgt := 31) dX8_ask_25 rfl (by decide) (fun _ => ?_) (fun hc => absurd hc (by decide))
        refine aw_aload_n (npc := 32) rfl dX8_ask_31 rfl ?_
        refine aw_get (npc := 35) dX8_ask_32 rfl kf_X8_64 F.1 rfl ?_
        refine aw_iload_n (npc := 36) rfl dX8_ask_35 rfl ?_
        refine aw_iald (npc := 37) (x := (a 86) sn) (j := sn) dX8_ask_36 rfl F.2.2.2.2.2.2.2.2.2.2.2.2.2.2.2.2.2.1 (am_ix_nI (by omega)) (tl_at (by omega)) ?_
        refine aw_top (y := 2) eth ?_
        refine aw_iconst (npc := 38) (v := 1) (by decide) dX8_ask_37 rfl ?_
        refine aw_icmp_ne (npc := 41) (tgt := 63) dX8_ask_38 rfl (by decide) (fun _ => ?_) (fun hc => absurd hc (by decide))
        refine aw_ldc (npc := 65) kc_X8_134 dX8_ask_63 rfl ?_
        refine aw_iret rfl dX8_ask_65 ?_
        exact (show akM (a 86) (a 87) (a 88) (nI sn) k = (-1000000012) by simp [akM, cI, hw1, hw2, fsn, eth]) ▸ hq
      · refine aw_top (y := 3) eth ?_
        refine aw_if_ne (npc := 28) (tgt := 31) dX8_ask_25 rfl (by decide) (fun _ => ?_) (fun hc => absurd hc (by decide))
        refine aw_aload_n (npc := 32) rfl dX8_ask_31 rfl ?_
        refine aw_get (npc := 35) dX8_ask_32 rfl kf_X8_64 F.1 rfl ?_
        refine aw_iload_n (npc := 36) rfl dX8_ask_35 rfl ?_
        refine aw_iald (npc := 37) (x := (a 86) sn) (j := sn) dX8_ask_36 rfl F.2.2.2.2.2.2.2.2.2.2.2.2.2.2.2.2.2.1 (am_ix_nI (by omega)) (tl_at (by omega)) ?_
        refine aw_top (y := 3) eth ?_
        refine aw_iconst (npc := 38) (v := 1) (by decide) dX8_ask_37 rfl ?_
        refine aw_icmp_ne (npc := 41) (tgt := 63) dX8_ask_38 rfl (by decide) (fun _ => ?_) (fun hc => absurd hc (by decide))
        refine aw_ldc (npc := 65) kc_X8_134 dX8_ask_63 rfl ?_
        refine aw_iret rfl dX8_ask_65 ?_
        exact (show akM (a 86) (a 87) (a 88) (nI sn) k = (-1000000012) by simp [akM, cI, hw1, hw2, fsn, eth]) ▸ hq
    · refine aw_re (S' := [.int 0]) rfl ?_
      refine aw_if_ne (npc := 16) (tgt := 19) dX8_ask_13 rfl (by decide) (fun hc => absurd (by decide) hc) (fun _ => ?_)
      refine aw_ldc (npc := 18) kc_X8_91 dX8_ask_16 rfl ?_
      refine aw_iret rfl dX8_ask_18 ?_
      exact (show akM (a 86) (a 87) (a 88) (nI sn) k = (-1000000001) by simp [akM, cI, hw1, hw2, fsn]) ▸ hq
  · refine aw_re (S' := [.int 0]) rfl ?_
    refine aw_if_eq (npc := 7) (tgt := 16) dX8_ask_4 rfl (by decide) (fun _ => ?_) (fun hc => absurd (by decide) hc)
    refine aw_ldc (npc := 18) kc_X8_91 dX8_ask_16 rfl ?_
    refine aw_iret rfl dX8_ask_18 ?_
    exact (show akM (a 86) (a 87) (a 88) s k = (-1000000001) by simp [akM, cI, hw1]) ▸ hq
set_option maxHeartbeats 4000000 in
set_option maxRecDepth 100000 in
theorem C_item {X : List Int32} {d rc rs n : Nat} {Q : am_Q} {h : am_H} {N : Nat → Int32} {tx : List Value} {lk mv : Nat → Int32} {ik wc : Int32} {fr c : Nat} {s : Int32} {p : Int32} {th kd pr nu ss zs hc : Nat → Int32} (O : OB ik wc h) (Sl : SL th kd pr nu ss zs hc h) (hI : SI th kd zs) (hq : Q (some (.int (itV th zs hc s p))) n h) : AW X mX7_item (d + 12) rc rs 0 [some (.ref 0), some (.int s), some (.int p), none] [] n h Q := by
  refine aw_iload_n (npc := 1) rfl dX7_item_0 rfl ?_
  refine aw_callS (npc := 4) (N := mX7_isSlot) (mc := 0) (ms := 0) (A := [.int s]) (S := []) (L0 := [some (.int s)]) dX7_item_1 rfl km_X7_isSlot kk_X7_299 rfl ⟨rfl, by decide⟩ rfl (Nat.le_of_ble_eq_true rfl) (Nat.zero_add _) (Nat.zero_add _) rfl ?_
  refine c_X7_isSlot (fun hw1 => ?_) (fun hw1 => ?_)
  · obtain ⟨sn, hsn, esn⟩ := wi_nI (H := 4) (by decide) (by decide) hw1
    subst esn
    have fsn : fN (nI sn) = sn := fN_nI (by omega)
    obtain ⟨hth, hkd, z9, hz24, ez9⟩ := hI sn (by omega)
    refine aw_re (S' := [.int 1]) rfl ?_
    refine aw_if_ne (npc := 7) (tgt := 10) dX7_item_4 rfl (by decide) (fun _ => ?_) (fun hc => absurd hc (by decide))
    refine aw_aload_n (npc := 11) rfl dX7_item_10 rfl ?_
    refine aw_get (npc := 14) dX7_item_11 rfl kf_X7_53 O.1 rfl ?_
    refine aw_iload_n (npc := 15) rfl dX7_item_14 rfl ?_
    refine aw_aald (npc := 16) (j := sn) dX7_item_15 rfl (by decide) O.2.2 (am_ix_nI (by omega)) (sl_at (by omega)) ?_
    refine aw_astore_n (npc := 17) (L' := [some (.ref 0), some (.int (nI sn)), some (.int p), some (.ref (54 + 3 * sn))]) dX7_item_16 rfl (by decide) rfl rfl ?_
    refine aw_aload_n (npc := 18) rfl dX7_item_17 rfl ?_
    refine aw_get (npc := 21) dX7_item_18 rfl kf_X7_302 (Sl sn (by omega)).1 rfl ?_
    rcases wi_c0_3 hth with eth | eth | eth | eth
    · refine aw_top (y := 0) eth ?_
      refine aw_if_ne (npc := 24) (tgt := 27) dX7_item_21 rfl (by decide) (fun hc => absurd (by decide) hc) (fun _ => ?_)
      refine aw_ldc (npc := 26) kc_X7_210 dX7_item_24 rfl ?_
      refine aw_iret rfl dX7_item_26 ?_
      exact (show itV th zs hc (nI sn) p = (-1000000011) by simp [itV, cI, hw1, fsn, eth]) ▸ hq
    · refine aw_top (y := 1) eth ?_
      refine aw_if_ne (npc := 24) (tgt := 27) dX7_item_21 rfl (by decide) (fun _ => ?_) (fun hc => absurd hc (by decide))
      refine aw_aload_n (npc := 28) rfl dX7_item_27 rfl ?_
      refine aw_get (npc := 31) dX7_item_28 rfl kf_X7_302 (Sl sn (by omega)).1 rfl ?_
      refine aw_top (y := 1) eth ?_
      refine aw_iconst (npc := 32) (v := 2) (by decide) dX7_item_31 rfl ?_
      refine aw_icmp_eq (npc := 35) (tgt := 38) dX7_item_32 rfl (by decide) (fun hc => absurd hc (by decide)) (fun _ => ?_)
      refine aw_ldc (npc := 37) kc_X7_123 dX7_item_35 rfl ?_
      refine aw_iret rfl dX7_item_37 ?_
      exact (show itV th zs hc (nI sn) p = (-1000000012) by simp [itV, cI, hw1, fsn, eth]) ▸ hq
    · refine aw_top (y := 2) eth ?_
      refine aw_if_ne (npc := 24) (tgt := 27) dX7_item_21 rfl (by decide) (fun _ => ?_) (fun hc => absurd hc (by decide))
      refine aw_aload_n (npc := 28) rfl dX7_item_27 rfl ?_
      refine aw_get (npc := 31) dX7_item_28 rfl kf_X7_302 (Sl sn (by omega)).1 rfl ?_
      refine aw_top (y := 2) eth ?_
      refine aw_iconst (npc := 32) (v := 2) (by decide) dX7_item_31 rfl ?_
      refine aw_icmp_eq (npc := 35) (tgt := 38) dX7_item_32 rfl (by decide) (fun _ => ?_) (fun hc => absurd (by decide) hc)
      refine aw_aload_n (npc := 39) rfl dX7_item_38 rfl ?_
      refine aw_get (npc := 42) dX7_item_39 rfl kf_X7_311 (Sl sn (by omega)).1 rfl ?_
      refine aw_iload_n (npc := 43) rfl dX7_item_42 rfl ?_
      refine aw_callV (npc := 46) (N := mX2_isPlace) (b := 55 + 3 * sn) (mc := 0) (ms := 0) (A := [.int p]) (S := []) (L0 := [some (.ref (55 + 3 * sn)), some (.int p)]) dX7_item_43 rfl km_X2_isPlace kk_X7_275 (Sl sn (by omega)).2.1 ⟨by decide, rfl⟩ rfl ⟨rfl, by decide⟩ rfl (Nat.le_of_ble_eq_true rfl) (Nat.zero_add _) (Nat.zero_add _) rfl ?_
      refine aw_iload_n (npc := 1) rfl dX2_isPlace_0 rfl ?_
      refine aw_iconst (npc := 2) (v := 0) (by decide) dX2_isPlace_1 rfl ?_
      refine aw_aload_n (npc := 3) rfl dX2_isPlace_2 rfl ?_
      refine aw_get (npc := 6) dX2_isPlace_3 rfl kf_X2_15 (Sl sn (by omega)).2.1 rfl ?_
      refine aw_iconst (npc := 7) (v := 1) (by decide) dX2_isPlace_6 rfl ?_
      refine aw_isub (npc := 8) dX2_isPlace_7 rfl ?_
      refine aw_callSN (npc := 11) (N := mX7_within) (mc := 0) (ms := 0) (A := [.int p, .int 0, .int ((zs sn) - 1)]) (S := []) (L0 := [some (.int p), some (.int 0), some (.int ((zs sn) - 1))]) dX2_isPlace_8 rfl km_X7_within kk_X2_34 rfl ⟨rfl, by decide⟩ rfl (Nat.le_of_ble_eq_true rfl) (Nat.zero_add _) (Nat.zero_add _) rfl ?_
      refine c_X7_within (fun hw2 => ?_) (fun hw2 => ?_)
      · obtain ⟨pn, hpn, epn⟩ := wi_idx ez9 (by omega) hw2
        subst epn
        have fpn : fN (nI pn) = pn := fN_nI (by omega)
        refine aw_re (S' := [.int 1]) rfl ?_
        refine aw_zret rfl rfl dX2_isPlace_11 ?_
        refine aw_re (S' := [.int 1]) rfl ?_
        refine aw_if_ne (npc := 49) (tgt := 53) dX7_item_46 rfl (by decide) (fun _ => ?_) (fun hc => absurd hc (by decide))
        refine aw_aload_n (npc := 54) rfl dX7_item_53 rfl ?_
        refine aw_get (npc := 57) dX7_item_54 rfl kf_X7_311 (Sl sn (by omega)).1 rfl ?_
        refine aw_iload_n (npc := 58) rfl dX7_item_57 rfl ?_
        refine aw_callV (npc := 61) (N := mX2_isNumber) (b := 55 + 3 * sn) (mc := 0) (ms := 0) (A := [.int (nI pn)]) (S := []) (L0 := [some (.ref (55 + 3 * sn)), some (.int (nI pn))]) dX7_item_58 rfl km_X2_isNumber kk_X7_215 (Sl sn (by omega)).2.1 ⟨by decide, rfl⟩ rfl ⟨rfl, by decide⟩ rfl (Nat.le_of_ble_eq_true rfl) (Nat.zero_add _) (Nat.zero_add _) rfl ?_
        refine aw_aload_n (npc := 1) rfl dX2_isNumber_0 rfl ?_
        refine aw_iload_n (npc := 2) rfl dX2_isNumber_1 rfl ?_
        refine aw_callV (npc := 5) (N := mX2_isPlace) (b := 55 + 3 * sn) (mc := 0) (ms := 0) (A := [.int (nI pn)]) (S := []) (L0 := [some (.ref (55 + 3 * sn)), some (.int (nI pn))]) dX2_isNumber_2 rfl km_X2_isPlace kk_X2_38 (Sl sn (by omega)).2.1 ⟨by decide, rfl⟩ rfl ⟨rfl, by decide⟩ rfl (Nat.le_of_ble_eq_true rfl) (Nat.zero_add _) (Nat.zero_add _) rfl ?_
        refine aw_iload_n (npc := 1) rfl dX2_isPlace_0 rfl ?_
        refine aw_iconst (npc := 2) (v := 0) (by decide) dX2_isPlace_1 rfl ?_
        refine aw_aload_n (npc := 3) rfl dX2_isPlace_2 rfl ?_
        refine aw_get (npc := 6) dX2_isPlace_3 rfl kf_X2_15 (Sl sn (by omega)).2.1 rfl ?_
        refine aw_iconst (npc := 7) (v := 1) (by decide) dX2_isPlace_6 rfl ?_
        refine aw_isub (npc := 8) dX2_isPlace_7 rfl ?_
        refine aw_callSN (npc := 11) (N := mX7_within) (mc := 0) (ms := 0) (A := [.int (nI pn), .int 0, .int ((zs sn) - 1)]) (S := []) (L0 := [some (.int (nI pn)), some (.int 0), some (.int ((zs sn) - 1))]) dX2_isPlace_8 rfl km_X7_within kk_X2_34 rfl ⟨rfl, by decide⟩ rfl (Nat.le_of_ble_eq_true rfl) (Nat.zero_add _) (Nat.zero_add _) rfl ?_
        refine c_X7_within (fun _ => ?_) (fun hw3 => absurd hw2 hw3)
        refine aw_re (S' := [.int 1]) rfl ?_
        refine aw_zret rfl rfl dX2_isPlace_11 ?_
        refine aw_re (S' := [.int 1]) rfl ?_
        refine aw_if_eq (npc := 8) (tgt := 23) dX2_isNumber_5 rfl (by decide) (fun hc => absurd hc (by decide)) (fun _ => ?_)
        refine aw_aload_n (npc := 9) rfl dX2_isNumber_8 rfl ?_
        refine aw_get (npc := 12) dX2_isNumber_9 rfl kf_X2_18 (Sl sn (by omega)).2.1 rfl ?_
        refine aw_iload_n (npc := 13) rfl dX2_isNumber_12 rfl ?_
        refine aw_iald (npc := 14) (x := hc (24 * sn + pn)) (j := pn) dX2_isNumber_13 rfl (Sl sn (by omega)).2.2 (am_ix_nI (by omega)) (tl_at (by omega)) ?_
        refine aw_ldc (npc := 16) kc_X2_42 dX2_isNumber_14 rfl ?_
        refine aw_icmp_eq (npc := 19) (tgt := 23) dX2_isNumber_16 rfl (by decide) (fun hc4 => ?_) (fun hc4 => ?_)
        · refine aw_iconst (npc := 24) (v := 0) (by decide) dX2_isNumber_23 rfl ?_
          refine aw_zret rfl rfl dX2_isNumber_24 ?_
          refine aw_re (S' := [.int 0]) rfl ?_
          refine aw_if_eq (npc := 64) (tgt := 76) dX7_item_61 rfl (by decide) (fun _ => ?_) (fun hc => absurd (by decide) hc)
          refine aw_ldc (npc := 78) kc_X7_123 dX7_item_76 rfl ?_
          refine aw_iret rfl dX7_item_78 ?_
          exact (show itV th zs hc (nI sn) (nI pn) = (-1000000012) by simp [itV, cI, hw1, hw2, hc4, fsn, fpn, eth]) ▸ hq
        · refine aw_iconst (npc := 20) (v := 1) (by decide) dX2_isNumber_19 rfl ?_
          refine aw_goto (npc := 24) dX2_isNumber_20 (by decide) ?_
          refine aw_zret rfl rfl dX2_isNumber_24 ?_
          refine aw_re (S' := [.int 1]) rfl ?_
          refine aw_if_eq (npc := 64) (tgt := 76) dX7_item_61 rfl (by decide) (fun hc => absurd hc (by decide)) (fun _ => ?_)
          refine aw_aload_n (npc := 65) rfl dX7_item_64 rfl ?_
          refine aw_get (npc := 68) dX7_item_65 rfl kf_X7_311 (Sl sn (by omega)).1 rfl ?_
          refine aw_get (npc := 71) dX7_item_68 rfl kf_X7_218 (Sl sn (by omega)).2.1 rfl ?_
          refine aw_iload_n (npc := 72) rfl dX7_item_71 rfl ?_
          refine aw_iald (npc := 73) (x := hc (24 * sn + pn)) (j := pn) dX7_item_72 rfl (Sl sn (by omega)).2.2 (am_ix_nI (by omega)) (tl_at (by omega)) ?_
          refine aw_goto (npc := 78) dX7_item_73 (by decide) ?_
          refine aw_iret rfl dX7_item_78 ?_
          exact (show itV th zs hc (nI sn) (nI pn) = (hc (24 * sn + pn)) by simp [itV, cI, hw1, hw2, hc4, fsn, fpn, eth]) ▸ hq
      · refine aw_re (S' := [.int 0]) rfl ?_
        refine aw_zret rfl rfl dX2_isPlace_11 ?_
        refine aw_re (S' := [.int 0]) rfl ?_
        refine aw_if_ne (npc := 49) (tgt := 53) dX7_item_46 rfl (by decide) (fun hc => absurd (by decide) hc) (fun _ => ?_)
        refine aw_ldcw (npc := 52) kc_X7_278 dX7_item_49 rfl ?_
        refine aw_iret rfl dX7_item_52 ?_
        exact (show itV th zs hc (nI sn) p = (-1000000013) by simp [itV, cI, hw1, hw2, fsn, eth]) ▸ hq
    · refine aw_top (y := 3) eth ?_
      refine aw_if_ne (npc := 24) (tgt := 27) dX7_item_21 rfl (by decide) (fun _ => ?_) (fun hc => absurd hc (by decide))
      refine aw_aload_n (npc := 28) rfl dX7_item_27 rfl ?_
      refine aw_get (npc := 31) dX7_item_28 rfl kf_X7_302 (Sl sn (by omega)).1 rfl ?_
      refine aw_top (y := 3) eth ?_
      refine aw_iconst (npc := 32) (v := 2) (by decide) dX7_item_31 rfl ?_
      refine aw_icmp_eq (npc := 35) (tgt := 38) dX7_item_32 rfl (by decide) (fun hc => absurd hc (by decide)) (fun _ => ?_)
      refine aw_ldc (npc := 37) kc_X7_123 dX7_item_35 rfl ?_
      refine aw_iret rfl dX7_item_37 ?_
      exact (show itV th zs hc (nI sn) p = (-1000000012) by simp [itV, cI, hw1, fsn, eth]) ▸ hq
  · refine aw_re (S' := [.int 0]) rfl ?_
    refine aw_if_ne (npc := 7) (tgt := 10) dX7_item_4 rfl (by decide) (fun hc => absurd (by decide) hc) (fun _ => ?_)
    refine aw_ldc (npc := 9) kc_X7_78 dX7_item_7 rfl ?_
    refine aw_iret rfl dX7_item_9 ?_
    exact (show itV th zs hc s p = (-1000000001) by simp [itV, cI, hw1]) ▸ hq
set_option maxHeartbeats 4000000 in
set_option maxRecDepth 100000 in
theorem M_item {X : List Int32} {d rc rs n : Nat} {Q : am_Q} {h : am_H} {o N : Nat → Int32} {a : Nat → Nat → Int32} {fr c : Nat} {s : Int32} {p : Int32} (F : MR o N a h) (hI : SMI (a 86) (a 87)) (hq : Q (some (.int (itV (a 86) (a 87) (a 89) s p))) n h) : AW X mX8_item (d + 12) rc rs 0 [some (.ref 69), some (.int s), some (.int p), none] [] n h Q := by
  refine aw_iload_n (npc := 1) rfl dX8_item_0 rfl ?_
  refine aw_callS (npc := 4) (N := mX8_isSlot) (mc := 0) (ms := 0) (A := [.int s]) (S := []) (L0 := [some (.int s)]) dX8_item_1 rfl km_X8_isSlot kk_X8_262 rfl ⟨rfl, by decide⟩ rfl (Nat.le_of_ble_eq_true rfl) (Nat.zero_add _) (Nat.zero_add _) rfl ?_
  refine c_X8_isSlot (fun hw1 => ?_) (fun hw1 => ?_)
  · obtain ⟨sn, hsn, esn⟩ := wi_nI (H := 4) (by decide) (by decide) hw1
    subst esn
    have fsn : fN (nI sn) = sn := fN_nI (by omega)
    obtain ⟨hth, hkd, hzz⟩ := hI sn (by omega)
    refine aw_re (S' := [.int 1]) rfl ?_
    refine aw_if_ne (npc := 7) (tgt := 10) dX8_item_4 rfl (by decide) (fun _ => ?_) (fun hc => absurd hc (by decide))
    refine aw_aload_n (npc := 11) rfl dX8_item_10 rfl ?_
    refine aw_get (npc := 14) dX8_item_11 rfl kf_X8_64 F.1 rfl ?_
    refine aw_iload_n (npc := 15) rfl dX8_item_14 rfl ?_
    refine aw_iald (npc := 16) (x := (a 86) sn) (j := sn) dX8_item_15 rfl F.2.2.2.2.2.2.2.2.2.2.2.2.2.2.2.2.2.1 (am_ix_nI (by omega)) (tl_at (by omega)) ?_
    rcases wi_c0_3 hth with eth | eth | eth | eth
    · refine aw_top (y := 0) eth ?_
      refine aw_if_ne (npc := 19) (tgt := 22) dX8_item_16 rfl (by decide) (fun hc => absurd (by decide) hc) (fun _ => ?_)
      refine aw_ldc (npc := 21) kc_X8_187 dX8_item_19 rfl ?_
      refine aw_iret rfl dX8_item_21 ?_
      exact (show itV (a 86) (a 87) (a 89) (nI sn) p = (-1000000011) by simp [itV, cI, hw1, fsn, eth]) ▸ hq
    · refine aw_top (y := 1) eth ?_
      refine aw_if_ne (npc := 19) (tgt := 22) dX8_item_16 rfl (by decide) (fun _ => ?_) (fun hc => absurd hc (by decide))
      refine aw_aload_n (npc := 23) rfl dX8_item_22 rfl ?_
      refine aw_get (npc := 26) dX8_item_23 rfl kf_X8_64 F.1 rfl ?_
      refine aw_iload_n (npc := 27) rfl dX8_item_26 rfl ?_
      refine aw_iald (npc := 28) (x := (a 86) sn) (j := sn) dX8_item_27 rfl F.2.2.2.2.2.2.2.2.2.2.2.2.2.2.2.2.2.1 (am_ix_nI (by omega)) (tl_at (by omega)) ?_
      refine aw_top (y := 1) eth ?_
      refine aw_iconst (npc := 29) (v := 2) (by decide) dX8_item_28 rfl ?_
      refine aw_icmp_eq (npc := 32) (tgt := 35) dX8_item_29 rfl (by decide) (fun hc => absurd hc (by decide)) (fun _ => ?_)
      refine aw_ldc (npc := 34) kc_X8_134 dX8_item_32 rfl ?_
      refine aw_iret rfl dX8_item_34 ?_
      exact (show itV (a 86) (a 87) (a 89) (nI sn) p = (-1000000012) by simp [itV, cI, hw1, fsn, eth]) ▸ hq
    · refine aw_top (y := 2) eth ?_
      refine aw_if_ne (npc := 19) (tgt := 22) dX8_item_16 rfl (by decide) (fun _ => ?_) (fun hc => absurd hc (by decide))
      refine aw_aload_n (npc := 23) rfl dX8_item_22 rfl ?_
      refine aw_get (npc := 26) dX8_item_23 rfl kf_X8_64 F.1 rfl ?_
      refine aw_iload_n (npc := 27) rfl dX8_item_26 rfl ?_
      refine aw_iald (npc := 28) (x := (a 86) sn) (j := sn) dX8_item_27 rfl F.2.2.2.2.2.2.2.2.2.2.2.2.2.2.2.2.2.1 (am_ix_nI (by omega)) (tl_at (by omega)) ?_
      refine aw_top (y := 2) eth ?_
      refine aw_iconst (npc := 29) (v := 2) (by decide) dX8_item_28 rfl ?_
      refine aw_icmp_eq (npc := 32) (tgt := 35) dX8_item_29 rfl (by decide) (fun _ => ?_) (fun hc => absurd (by decide) hc)
      obtain ⟨z9, hz24, ez9⟩ := hzz eth
      refine aw_iload_n (npc := 36) rfl dX8_item_35 rfl ?_
      refine aw_iconst (npc := 37) (v := 0) (by decide) dX8_item_36 rfl ?_
      refine aw_aload_n (npc := 38) rfl dX8_item_37 rfl ?_
      refine aw_get (npc := 41) dX8_item_38 rfl kf_X8_67 F.1 rfl ?_
      refine aw_iload_n (npc := 42) rfl dX8_item_41 rfl ?_
      refine aw_iald (npc := 43) (x := (a 87) sn) (j := sn) dX8_item_42 rfl F.2.2.2.2.2.2.2.2.2.2.2.2.2.2.2.2.2.2.1 (am_ix_nI (by omega)) (tl_at (by omega)) ?_
      refine aw_iconst (npc := 44) (v := 1) (by decide) dX8_item_43 rfl ?_
      refine aw_isub (npc := 45) dX8_item_44 rfl ?_
      refine aw_callS (npc := 48) (N := mX8_in) (mc := 0) (ms := 0) (A := [.int p, .int 0, .int (((a 87) sn) - 1)]) (S := []) (L0 := [some (.int p), some (.int 0), some (.int (((a 87) sn) - 1))]) dX8_item_45 rfl km_X8_in kk_X8_83 rfl ⟨rfl, by decide⟩ rfl (Nat.le_of_ble_eq_true rfl) (Nat.zero_add _) (Nat.zero_add _) rfl ?_
      refine c_X8_in (fun hw2 => ?_) (fun hw2 => ?_)
      · obtain ⟨pn, hpn, epn⟩ := wi_idx ez9 (by omega) hw2
        subst epn
        have fpn : fN (nI pn) = pn := fN_nI (by omega)
        refine aw_re (S' := [.int 1]) rfl ?_
        refine aw_if_ne (npc := 51) (tgt := 55) dX8_item_48 rfl (by decide) (fun _ => ?_) (fun hc => absurd hc (by decide))
        refine aw_aload_n (npc := 56) rfl dX8_item_55 rfl ?_
        refine aw_get (npc := 59) dX8_item_56 rfl kf_X8_73 F.1 rfl ?_
        refine aw_bipush (npc := 61) (v := 24) (by decide) dX8_item_59 rfl ?_
        refine aw_iload_n (npc := 62) rfl dX8_item_61 rfl ?_
        refine aw_imulV (npc := 63) (v := nI (24 * sn)) dX8_item_62 rfl (pk_mul 24 _) ?_
        refine aw_iload_n (npc := 64) rfl dX8_item_63 rfl ?_
        refine aw_iaddV (npc := 65) (v := nI ((24 * sn) + pn)) dX8_item_64 rfl (nI_add _ _) ?_
        refine aw_iald (npc := 66) (x := (a 89) ((24 * sn) + pn)) (j := ((24 * sn) + pn)) dX8_item_65 rfl F.2.2.2.2.2.2.2.2.2.2.2.2.2.2.2.2.2.2.2.2.1 (am_ix_nI (by omega)) (tl_at (by omega)) ?_
        refine aw_istore_n (npc := 67) (L' := [some (.ref 69), some (.int (nI sn)), some (.int (nI pn)), some (.int ((a 89) ((24 * sn) + pn)))]) dX8_item_66 rfl (by decide) rfl rfl ?_
        refine aw_iload_n (npc := 68) rfl dX8_item_67 rfl ?_
        refine aw_ldc (npc := 70) kc_X8_82 dX8_item_68 rfl ?_
        refine aw_icmp_ne (npc := 73) (tgt := 78) dX8_item_70 rfl (by decide) (fun hc3 => ?_) (fun hc3 => ?_)
        · refine aw_iload_n (npc := 79) rfl dX8_item_78 rfl ?_
          refine aw_iret rfl dX8_item_79 ?_
          exact (show itV (a 86) (a 87) (a 89) (nI sn) (nI pn) = ((a 89) ((24 * sn) + pn)) by simp [itV, cI, hw1, hw2, hc3, fsn, fpn, eth]) ▸ hq
        · refine aw_ldc (npc := 75) kc_X8_134 dX8_item_73 rfl ?_
          refine aw_goto (npc := 79) dX8_item_75 (by decide) ?_
          refine aw_iret rfl dX8_item_79 ?_
          exact (show itV (a 86) (a 87) (a 89) (nI sn) (nI pn) = (-1000000012) by simp [itV, cI, hw1, hw2, hc3, fsn, fpn, eth]) ▸ hq
      · refine aw_re (S' := [.int 0]) rfl ?_
        refine aw_if_ne (npc := 51) (tgt := 55) dX8_item_48 rfl (by decide) (fun hc => absurd (by decide) hc) (fun _ => ?_)
        refine aw_ldcw (npc := 54) kc_X8_259 dX8_item_51 rfl ?_
        refine aw_iret rfl dX8_item_54 ?_
        exact (show itV (a 86) (a 87) (a 89) (nI sn) p = (-1000000013) by simp [itV, cI, hw1, hw2, fsn, eth]) ▸ hq
    · refine aw_top (y := 3) eth ?_
      refine aw_if_ne (npc := 19) (tgt := 22) dX8_item_16 rfl (by decide) (fun _ => ?_) (fun hc => absurd hc (by decide))
      refine aw_aload_n (npc := 23) rfl dX8_item_22 rfl ?_
      refine aw_get (npc := 26) dX8_item_23 rfl kf_X8_64 F.1 rfl ?_
      refine aw_iload_n (npc := 27) rfl dX8_item_26 rfl ?_
      refine aw_iald (npc := 28) (x := (a 86) sn) (j := sn) dX8_item_27 rfl F.2.2.2.2.2.2.2.2.2.2.2.2.2.2.2.2.2.1 (am_ix_nI (by omega)) (tl_at (by omega)) ?_
      refine aw_top (y := 3) eth ?_
      refine aw_iconst (npc := 29) (v := 2) (by decide) dX8_item_28 rfl ?_
      refine aw_icmp_eq (npc := 32) (tgt := 35) dX8_item_29 rfl (by decide) (fun hc => absurd hc (by decide)) (fun _ => ?_)
      refine aw_ldc (npc := 34) kc_X8_134 dX8_item_32 rfl ?_
      refine aw_iret rfl dX8_item_34 ?_
      exact (show itV (a 86) (a 87) (a 89) (nI sn) p = (-1000000012) by simp [itV, cI, hw1, fsn, eth]) ▸ hq
  · refine aw_re (S' := [.int 0]) rfl ?_
    refine aw_if_ne (npc := 7) (tgt := 10) dX8_item_4 rfl (by decide) (fun hc => absurd (by decide) hc) (fun _ => ?_)
    refine aw_ldc (npc := 9) kc_X8_91 dX8_item_7 rfl ?_
    refine aw_iret rfl dX8_item_9 ?_
    exact (show itV (a 86) (a 87) (a 89) s p = (-1000000001) by simp [itV, cI, hw1]) ▸ hq
set_option maxHeartbeats 4000000 in
set_option maxRecDepth 100000 in
theorem C_rest {X : List Int32} {d rc rs n : Nat} {Q : am_Q} {h : am_H} {N : Nat → Int32} {tx : List Value} {lk mv : Nat → Int32} {ik wc : Int32} {fr c : Nat} {s : Int32} {k : Int32} {th kd pr nu ss zs hc : Nat → Int32} (O : OB ik wc h) (Sl : SL th kd pr nu ss zs hc h) (hI : SI th kd zs) (hq : Q (some (.int (reV th nu s k))) n h) : AW X mX7_rest (d + 12) rc rs 0 [some (.ref 0), some (.int s), some (.int k), none] [] n h Q := by
  refine aw_iload_n (npc := 1) rfl dX7_rest_0 rfl ?_
  refine aw_callS (npc := 4) (N := mX7_isSlot) (mc := 0) (ms := 0) (A := [.int s]) (S := []) (L0 := [some (.int s)]) dX7_rest_1 rfl km_X7_isSlot kk_X7_299 rfl ⟨rfl, by decide⟩ rfl (Nat.le_of_ble_eq_true rfl) (Nat.zero_add _) (Nat.zero_add _) rfl ?_
  refine c_X7_isSlot (fun hw1 => ?_) (fun hw1 => ?_)
  · obtain ⟨sn, hsn, esn⟩ := wi_nI (H := 4) (by decide) (by decide) hw1
    subst esn
    have fsn : fN (nI sn) = sn := fN_nI (by omega)
    obtain ⟨hth, hkd, z9, hz24, ez9⟩ := hI sn (by omega)
    refine aw_re (S' := [.int 1]) rfl ?_
    refine aw_if_ne (npc := 7) (tgt := 10) dX7_rest_4 rfl (by decide) (fun _ => ?_) (fun hc => absurd hc (by decide))
    refine aw_aload_n (npc := 11) rfl dX7_rest_10 rfl ?_
    refine aw_get (npc := 14) dX7_rest_11 rfl kf_X7_53 O.1 rfl ?_
    refine aw_iload_n (npc := 15) rfl dX7_rest_14 rfl ?_
    refine aw_aald (npc := 16) (j := sn) dX7_rest_15 rfl (by decide) O.2.2 (am_ix_nI (by omega)) (sl_at (by omega)) ?_
    refine aw_astore_n (npc := 17) (L' := [some (.ref 0), some (.int (nI sn)), some (.int k), some (.ref (54 + 3 * sn))]) dX7_rest_16 rfl (by decide) rfl rfl ?_
    refine aw_aload_n (npc := 18) rfl dX7_rest_17 rfl ?_
    refine aw_get (npc := 21) dX7_rest_18 rfl kf_X7_302 (Sl sn (by omega)).1 rfl ?_
    rcases wi_c0_3 hth with eth | eth | eth | eth
    · refine aw_top (y := 0) eth ?_
      refine aw_if_ne (npc := 24) (tgt := 27) dX7_rest_21 rfl (by decide) (fun hc => absurd (by decide) hc) (fun _ => ?_)
      refine aw_ldc (npc := 26) kc_X7_210 dX7_rest_24 rfl ?_
      refine aw_iret rfl dX7_rest_26 ?_
      exact (show reV th nu (nI sn) k = (-1000000011) by simp [reV, cI, hw1, fsn, eth]) ▸ hq
    · refine aw_top (y := 1) eth ?_
      refine aw_if_ne (npc := 24) (tgt := 27) dX7_rest_21 rfl (by decide) (fun _ => ?_) (fun hc => absurd hc (by decide))
      refine aw_aload_n (npc := 28) rfl dX7_rest_27 rfl ?_
      refine aw_get (npc := 31) dX7_rest_28 rfl kf_X7_302 (Sl sn (by omega)).1 rfl ?_
      refine aw_top (y := 1) eth ?_
      refine aw_iconst (npc := 32) (v := 3) (by decide) dX7_rest_31 rfl ?_
      refine aw_icmp_eq (npc := 35) (tgt := 38) dX7_rest_32 rfl (by decide) (fun hc => absurd hc (by decide)) (fun _ => ?_)
      refine aw_ldc (npc := 37) kc_X7_123 dX7_rest_35 rfl ?_
      refine aw_iret rfl dX7_rest_37 ?_
      exact (show reV th nu (nI sn) k = (-1000000012) by simp [reV, cI, hw1, fsn, eth]) ▸ hq
    · refine aw_top (y := 2) eth ?_
      refine aw_if_ne (npc := 24) (tgt := 27) dX7_rest_21 rfl (by decide) (fun _ => ?_) (fun hc => absurd hc (by decide))
      refine aw_aload_n (npc := 28) rfl dX7_rest_27 rfl ?_
      refine aw_get (npc := 31) dX7_rest_28 rfl kf_X7_302 (Sl sn (by omega)).1 rfl ?_
      refine aw_top (y := 2) eth ?_
      refine aw_iconst (npc := 32) (v := 3) (by decide) dX7_rest_31 rfl ?_
      refine aw_icmp_eq (npc := 35) (tgt := 38) dX7_rest_32 rfl (by decide) (fun hc => absurd hc (by decide)) (fun _ => ?_)
      refine aw_ldc (npc := 37) kc_X7_123 dX7_rest_35 rfl ?_
      refine aw_iret rfl dX7_rest_37 ?_
      exact (show reV th nu (nI sn) k = (-1000000012) by simp [reV, cI, hw1, fsn, eth]) ▸ hq
    · refine aw_top (y := 3) eth ?_
      refine aw_if_ne (npc := 24) (tgt := 27) dX7_rest_21 rfl (by decide) (fun _ => ?_) (fun hc => absurd hc (by decide))
      refine aw_aload_n (npc := 28) rfl dX7_rest_27 rfl ?_
      refine aw_get (npc := 31) dX7_rest_28 rfl kf_X7_302 (Sl sn (by omega)).1 rfl ?_
      refine aw_top (y := 3) eth ?_
      refine aw_iconst (npc := 32) (v := 3) (by decide) dX7_rest_31 rfl ?_
      refine aw_icmp_eq (npc := 35) (tgt := 38) dX7_rest_32 rfl (by decide) (fun _ => ?_) (fun hc => absurd (by decide) hc)
      refine aw_iload_n (npc := 39) rfl dX7_rest_38 rfl ?_
      refine aw_if_ne (npc := 42) (tgt := 48) dX7_rest_39 rfl (by decide) (fun hc2 => ?_) (fun hc2 => ?_)
      · refine aw_aload_n (npc := 49) rfl dX7_rest_48 rfl ?_
        refine aw_get (npc := 52) dX7_rest_49 rfl kf_X7_318 (Sl sn (by omega)).1 rfl ?_
        refine aw_iload_n (npc := 53) rfl dX7_rest_52 rfl ?_
        refine aw_irem (npc := 54) hc2 dX7_rest_53 rfl ?_
        refine aw_iret rfl dX7_rest_54 ?_
        exact (show reV th nu (nI sn) k = ((nu sn) - (nu sn) / k * k) by simp [reV, cI, hw1, hc2, fsn, eth]) ▸ hq
      · refine aw_ldcw (npc := 45) kc_X7_321 dX7_rest_42 rfl ?_
        refine aw_goto (npc := 54) dX7_rest_45 (by decide) ?_
        refine aw_iret rfl dX7_rest_54 ?_
        exact (show reV th nu (nI sn) k = (-1000000002) by simp [reV, cI, hw1, hc2, fsn, eth]) ▸ hq
  · refine aw_re (S' := [.int 0]) rfl ?_
    refine aw_if_ne (npc := 7) (tgt := 10) dX7_rest_4 rfl (by decide) (fun hc => absurd (by decide) hc) (fun _ => ?_)
    refine aw_ldc (npc := 9) kc_X7_78 dX7_rest_7 rfl ?_
    refine aw_iret rfl dX7_rest_9 ?_
    exact (show reV th nu s k = (-1000000001) by simp [reV, cI, hw1]) ▸ hq
set_option maxHeartbeats 4000000 in
set_option maxRecDepth 100000 in
theorem M_rest {X : List Int32} {d rc rs n : Nat} {Q : am_Q} {h : am_H} {o N : Nat → Int32} {a : Nat → Nat → Int32} {fr c : Nat} {s : Int32} {k : Int32} (F : MR o N a h) (hI : SMI (a 86) (a 87)) (hq : Q (some (.int (reV (a 86) (a 87) s k))) n h) : AW X mX8_rest (d + 12) rc rs 0 [some (.ref 69), some (.int s), some (.int k)] [] n h Q := by
  refine aw_iload_n (npc := 1) rfl dX8_rest_0 rfl ?_
  refine aw_callS (npc := 4) (N := mX8_isSlot) (mc := 0) (ms := 0) (A := [.int s]) (S := []) (L0 := [some (.int s)]) dX8_rest_1 rfl km_X8_isSlot kk_X8_262 rfl ⟨rfl, by decide⟩ rfl (Nat.le_of_ble_eq_true rfl) (Nat.zero_add _) (Nat.zero_add _) rfl ?_
  refine c_X8_isSlot (fun hw1 => ?_) (fun hw1 => ?_)
  · obtain ⟨sn, hsn, esn⟩ := wi_nI (H := 4) (by decide) (by decide) hw1
    subst esn
    have fsn : fN (nI sn) = sn := fN_nI (by omega)
    obtain ⟨hth, hkd, hzz⟩ := hI sn (by omega)
    refine aw_re (S' := [.int 1]) rfl ?_
    refine aw_if_ne (npc := 7) (tgt := 10) dX8_rest_4 rfl (by decide) (fun _ => ?_) (fun hc => absurd hc (by decide))
    refine aw_aload_n (npc := 11) rfl dX8_rest_10 rfl ?_
    refine aw_get (npc := 14) dX8_rest_11 rfl kf_X8_64 F.1 rfl ?_
    refine aw_iload_n (npc := 15) rfl dX8_rest_14 rfl ?_
    refine aw_iald (npc := 16) (x := (a 86) sn) (j := sn) dX8_rest_15 rfl F.2.2.2.2.2.2.2.2.2.2.2.2.2.2.2.2.2.1 (am_ix_nI (by omega)) (tl_at (by omega)) ?_
    rcases wi_c0_3 hth with eth | eth | eth | eth
    · refine aw_top (y := 0) eth ?_
      refine aw_if_ne (npc := 19) (tgt := 22) dX8_rest_16 rfl (by decide) (fun hc => absurd (by decide) hc) (fun _ => ?_)
      refine aw_ldc (npc := 21) kc_X8_187 dX8_rest_19 rfl ?_
      refine aw_iret rfl dX8_rest_21 ?_
      exact (show reV (a 86) (a 87) (nI sn) k = (-1000000011) by simp [reV, cI, hw1, fsn, eth, rem_m1]) ▸ hq
    · refine aw_top (y := 1) eth ?_
      refine aw_if_ne (npc := 19) (tgt := 22) dX8_rest_16 rfl (by decide) (fun _ => ?_) (fun hc => absurd hc (by decide))
      refine aw_aload_n (npc := 23) rfl dX8_rest_22 rfl ?_
      refine aw_get (npc := 26) dX8_rest_23 rfl kf_X8_64 F.1 rfl ?_
      refine aw_iload_n (npc := 27) rfl dX8_rest_26 rfl ?_
      refine aw_iald (npc := 28) (x := (a 86) sn) (j := sn) dX8_rest_27 rfl F.2.2.2.2.2.2.2.2.2.2.2.2.2.2.2.2.2.1 (am_ix_nI (by omega)) (tl_at (by omega)) ?_
      refine aw_top (y := 1) eth ?_
      refine aw_iconst (npc := 29) (v := 3) (by decide) dX8_rest_28 rfl ?_
      refine aw_icmp_eq (npc := 32) (tgt := 35) dX8_rest_29 rfl (by decide) (fun hc => absurd hc (by decide)) (fun _ => ?_)
      refine aw_ldc (npc := 34) kc_X8_134 dX8_rest_32 rfl ?_
      refine aw_iret rfl dX8_rest_34 ?_
      exact (show reV (a 86) (a 87) (nI sn) k = (-1000000012) by simp [reV, cI, hw1, fsn, eth, rem_m1]) ▸ hq
    · refine aw_top (y := 2) eth ?_
      refine aw_if_ne (npc := 19) (tgt := 22) dX8_rest_16 rfl (by decide) (fun _ => ?_) (fun hc => absurd hc (by decide))
      refine aw_aload_n (npc := 23) rfl dX8_rest_22 rfl ?_
      refine aw_get (npc := 26) dX8_rest_23 rfl kf_X8_64 F.1 rfl ?_
      refine aw_iload_n (npc := 27) rfl dX8_rest_26 rfl ?_
      refine aw_iald (npc := 28) (x := (a 86) sn) (j := sn) dX8_rest_27 rfl F.2.2.2.2.2.2.2.2.2.2.2.2.2.2.2.2.2.1 (am_ix_nI (by omega)) (tl_at (by omega)) ?_
      refine aw_top (y := 2) eth ?_
      refine aw_iconst (npc := 29) (v := 3) (by decide) dX8_rest_28 rfl ?_
      refine aw_icmp_eq (npc := 32) (tgt := 35) dX8_rest_29 rfl (by decide) (fun hc => absurd hc (by decide)) (fun _ => ?_)
      refine aw_ldc (npc := 34) kc_X8_134 dX8_rest_32 rfl ?_
      refine aw_iret rfl dX8_rest_34 ?_
      exact (show reV (a 86) (a 87) (nI sn) k = (-1000000012) by simp [reV, cI, hw1, fsn, eth, rem_m1]) ▸ hq
    · refine aw_top (y := 3) eth ?_
      refine aw_if_ne (npc := 19) (tgt := 22) dX8_rest_16 rfl (by decide) (fun _ => ?_) (fun hc => absurd hc (by decide))
      refine aw_aload_n (npc := 23) rfl dX8_rest_22 rfl ?_
      refine aw_get (npc := 26) dX8_rest_23 rfl kf_X8_64 F.1 rfl ?_
      refine aw_iload_n (npc := 27) rfl dX8_rest_26 rfl ?_
      refine aw_iald (npc := 28) (x := (a 86) sn) (j := sn) dX8_rest_27 rfl F.2.2.2.2.2.2.2.2.2.2.2.2.2.2.2.2.2.1 (am_ix_nI (by omega)) (tl_at (by omega)) ?_
      refine aw_top (y := 3) eth ?_
      refine aw_iconst (npc := 29) (v := 3) (by decide) dX8_rest_28 rfl ?_
      refine aw_icmp_eq (npc := 32) (tgt := 35) dX8_rest_29 rfl (by decide) (fun _ => ?_) (fun hc => absurd (by decide) hc)
      refine aw_iload_n (npc := 36) rfl dX8_rest_35 rfl ?_
      refine aw_if_ne (npc := 39) (tgt := 45) dX8_rest_36 rfl (by decide) (fun hc2 => ?_) (fun hc2 => ?_)
      · refine aw_iload_n (npc := 46) rfl dX8_rest_45 rfl ?_
        refine aw_iconst (npc := 47) (v := -1) (by decide) dX8_rest_46 rfl ?_
        refine aw_icmp_ne (npc := 50) (tgt := 54) dX8_rest_47 rfl (by decide) (fun hc3 => ?_) (fun hc3 => ?_)
        · refine aw_aload_n (npc := 55) rfl dX8_rest_54 rfl ?_
          refine aw_get (npc := 58) dX8_rest_55 rfl kf_X8_67 F.1 rfl ?_
          refine aw_iload_n (npc := 59) rfl dX8_rest_58 rfl ?_
          refine aw_iald (npc := 60) (x := (a 87) sn) (j := sn) dX8_rest_59 rfl F.2.2.2.2.2.2.2.2.2.2.2.2.2.2.2.2.2.2.1 (am_ix_nI (by omega)) (tl_at (by omega)) ?_
          refine aw_iload_n (npc := 61) rfl dX8_rest_60 rfl ?_
          refine aw_irem (npc := 62) hc2 dX8_rest_61 rfl ?_
          refine aw_iret rfl dX8_rest_62 ?_
          exact (show reV (a 86) (a 87) (nI sn) k = (((a 87) sn) - ((a 87) sn) / k * k) by simp [reV, cI, hw1, hc2, hc3, fsn, eth, rem_m1]) ▸ hq
        · subst hc3
          refine aw_iconst (npc := 51) (v := 0) (by decide) dX8_rest_50 rfl ?_
          refine aw_goto (npc := 62) dX8_rest_51 (by decide) ?_
          refine aw_iret rfl dX8_rest_62 ?_
          exact (show reV (a 86) (a 87) (nI sn) (-1) = 0 by simp [reV, cI, hw1, hc2, fsn, eth, rem_m1]) ▸ hq
      · subst hc2
        refine aw_ldcw (npc := 42) kc_X8_265 dX8_rest_39 rfl ?_
        refine aw_goto (npc := 62) dX8_rest_42 (by decide) ?_
        refine aw_iret rfl dX8_rest_62 ?_
        exact (show reV (a 86) (a 87) (nI sn) 0 = (-1000000002) by simp [reV, cI, hw1, fsn, eth, rem_m1]) ▸ hq
  · refine aw_re (S' := [.int 0]) rfl ?_
    refine aw_if_ne (npc := 7) (tgt := 10) dX8_rest_4 rfl (by decide) (fun hc => absurd (by decide) hc) (fun _ => ?_)
    refine aw_ldc (npc := 9) kc_X8_91 dX8_rest_7 rfl ?_
    refine aw_iret rfl dX8_rest_9 ?_
    exact (show reV (a 86) (a 87) s k = (-1000000001) by simp [reV, cI, hw1, rem_m1]) ▸ hq
