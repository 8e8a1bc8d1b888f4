noncomputable def mkK (sr sz : Nat → Int32) (s p v : Int32) : Prop := wi s 0 3 ∧ ¬ sr (fN s) = -1 ∧ wi p 0 (sz (fN s) - 1) ∧ ((sr (fN s) = 0 ∧ ¬ v = (-1000000005)) ∨ (sr (fN s) = 1 ∧ (v = (-1000000005) ∨ wi v (-99999) 99999)))
noncomputable def mkV (sr sz : Nat → Int32) (s p v : Int32) : Int32 := cI (wi s 0 3) (cI (sr (fN s) = -1) (-1000000011) (cI (wi p 0 (sz (fN s) - 1)) (cI (sr (fN s) = 0) (cI (v = (-1000000005)) (-1000000012) 1) (cI (v = (-1000000005)) 1 (cI (wi v (-99999) 99999) 1 (-1000000001)))) (-1000000013))) (-1000000001)
noncomputable def mkC (sr sz : Nat → Int32) (s p v : Int32) (cl : Nat → Int32) : Nat → Int32 := cI (mkK sr sz s p v) (upd cl (24 * fN s + fN p) (cI (sr (fN s) = 0) v.toInt16.toInt32 v)) cl
set_option maxHeartbeats 4000000 in
set_option maxRecDepth 100000 in
theorem C_mark {X : List Int32} {d rc rs n : Nat} {Q : am_Q} {h : am_H} {N : Nat → Int32} {tx : List Value} {lk mv : Nat → Int32} {ik wc : Int32} {fr c : Nat} {s : Int32} {p : Int32} {v : Int32} {sr sz cl : Nat → Int32} (O : OB ik wc h) (Rw : RW sr sz cl h) (hI : RI sr sz) (hq : ∀ v9 c9 h9, v9 = mkV sr sz s p v → c9 = mkC sr sz s p v cl → RW sr sz c9 h9 → am_fp (fun k => k < 46 ∨ 54 ≤ k) h9 h → Q (some (.int v9)) n h9) : AW X mX7_mark (d + 12) rc rs 0 [some (.ref 0), some (.int s), some (.int p), some (.int v), none] [] n h Q := by
  refine aw_iload_n (npc := 1) rfl dX7_mark_0 rfl ?_
  refine aw_callS (npc := 4) (N := mX7_isSheet) (mc := 0) (ms := 0) (A := [.int s]) (S := []) (L0 := [some (.int s)]) dX7_mark_1 rfl km_X7_isSheet kk_X7_204 rfl ⟨rfl, by decide⟩ rfl (Nat.le_of_ble_eq_true rfl) (Nat.zero_add _) (Nat.zero_add _) rfl ?_
  refine c_X7_isSheet (fun hw1 => ?_) (fun hw1 => ?_)
  · obtain ⟨sn, hsn, esn⟩ := wi_nI (H := 3) (by decide) (by decide) hw1
    subst esn
    have fsn : fN (nI sn) = sn := fN_nI (by omega)
    obtain ⟨hsr, z9, hz24, ez9⟩ := hI sn (by omega)
    refine aw_re (S' := [.int 1]) rfl ?_
    refine aw_if_ne (npc := 7) (tgt := 10) dX7_mark_4 rfl (by decide) (fun _ => ?_) (fun hc => absurd hc (by decide))
    refine aw_aload_n (npc := 11) rfl dX7_mark_10 rfl ?_
    refine aw_get (npc := 14) dX7_mark_11 rfl kf_X7_47 O.1 rfl ?_
    refine aw_iload_n (npc := 15) rfl dX7_mark_14 rfl ?_
    refine aw_aald (npc := 16) (j := sn) dX7_mark_15 rfl (by decide) O.2.1 (am_ix_nI (by omega)) (sh_at (by omega)) ?_
    refine aw_astore (npc := 18) (L' := [some (.ref 0), some (.int (nI sn)), some (.int p), some (.int v), some (.ref (46 + 2 * sn))]) dX7_mark_16 rfl (by decide) rfl rfl ?_
    refine aw_aload (npc := 20) rfl dX7_mark_18 rfl ?_
    refine aw_callV (npc := 23) (N := mX2_isMissing) (b := 46 + 2 * sn) (mc := 0) (ms := 0) (A := []) (S := []) (L0 := [some (.ref (46 + 2 * sn))]) dX7_mark_20 rfl km_X2_isMissing kk_X7_207 (Rw sn (by omega)).1 ⟨by decide, rfl⟩ rfl ⟨rfl, by decide⟩ rfl (Nat.le_of_ble_eq_true rfl) (Nat.zero_add _) (Nat.zero_add _) rfl ?_
    refine aw_aload_n (npc := 1) rfl dX2_isMissing_0 rfl ?_
    refine aw_get (npc := 4) dX2_isMissing_1 rfl kf_X2_9 (Rw sn (by omega)).1 rfl ?_
    rcases wi_cm1_1 hsr with esr | esr | esr
    · refine aw_top (y := -1) esr ?_
      refine aw_iconst (npc := 5) (v := -1) (by decide) dX2_isMissing_4 rfl ?_
      refine aw_icmp_ne (npc := 8) (tgt := 12) dX2_isMissing_5 rfl (by decide) (fun hc => absurd (by decide) hc) (fun _ => ?_)
      refine aw_iconst (npc := 9) (v := 1) (by decide) dX2_isMissing_8 rfl ?_
      refine aw_goto (npc := 13) dX2_isMissing_9 (by decide) ?_
      refine aw_zret rfl rfl dX2_isMissing_13 ?_
      refine aw_re (S' := [.int 1]) rfl ?_
      refine aw_if_eq (npc := 26) (tgt := 29) dX7_mark_23 rfl (by decide) (fun hc => absurd hc (by decide)) (fun _ => ?_)
      refine aw_ldc (npc := 28) kc_X7_210 dX7_mark_26 rfl ?_
      refine aw_iret rfl dX7_mark_28 ?_
      exact hq _ _ _ (by simp [mkK, mkV, mkC, cI, hw1, fsn, esr]) (by simp [mkK, mkV, mkC, cI, hw1, fsn, esr]) Rw am_fp0
    · refine aw_top (y := 0) esr ?_
      refine aw_iconst (npc := 5) (v := -1) (by decide) dX2_isMissing_4 rfl ?_
      refine aw_icmp_ne (npc := 8) (tgt := 12) dX2_isMissing_5 rfl (by decide) (fun _ => ?_) (fun hc => absurd hc (by decide))
      refine aw_iconst (npc := 13) (v := 0) (by decide) dX2_isMissing_12 rfl ?_
      refine aw_zret rfl rfl dX2_isMissing_13 ?_
      refine aw_re (S' := [.int 0]) rfl ?_
      refine aw_if_eq (npc := 26) (tgt := 29) dX7_mark_23 rfl (by decide) (fun _ => ?_) (fun hc => absurd (by decide) hc)
      refine aw_aload (npc := 31) rfl dX7_mark_29 rfl ?_
      refine aw_iload_n (npc := 32) rfl dX7_mark_31 rfl ?_
      refine aw_callV (npc := 35) (N := mX2_isPlace) (b := 46 + 2 * sn) (mc := 0) (ms := 0) (A := [.int p]) (S := []) (L0 := [some (.ref (46 + 2 * sn)), some (.int p)]) dX7_mark_32 rfl km_X2_isPlace kk_X7_275 (Rw sn (by omega)).1 ⟨by decide, rfl⟩ rfl ⟨rfl, by decide⟩ rfl (Nat.le_of_ble_eq_true rfl) (Nat.zero_add _) (Nat.zero_add _) rfl ?_
      refine aw_iload_n (npc := 1) rfl dX2_isPlace_0 rfl ?_
      refine aw_iconst (npc := 2) (v := 0) (by decide) dX2_isPlace_1 rfl ?_
      refine aw_aload_n (npc := 3) rfl dX2_isPlace_2 rfl ?_
      refine aw_get (npc := 6) dX2_isPlace_3 rfl kf_X2_15 (Rw sn (by omega)).1 rfl ?_
      refine aw_iconst (npc := 7) (v := 1) (by decide) dX2_isPlace_6 rfl ?_
      refine aw_isub (npc := 8) dX2_isPlace_7 rfl ?_
      refine aw_callSN (npc := 11) (N := mX7_within) (mc := 0) (ms := 0) (A := [.int p, .int 0, .int ((sz sn) - 1)]) (S := []) (L0 := [some (.int p), some (.int 0), some (.int ((sz sn) - 1))]) dX2_isPlace_8 rfl km_X7_within kk_X2_34 rfl ⟨rfl, by decide⟩ rfl (Nat.le_of_ble_eq_true rfl) (Nat.zero_add _) (Nat.zero_add _) rfl ?_
      refine c_X7_within (fun hw2 => ?_) (fun hw2 => ?_)
      · obtain ⟨pn, hpn, epn⟩ := wi_idx ez9 (by omega) hw2
        subst epn
        have fpn : fN (nI pn) = pn := fN_nI (by omega)
        refine aw_re (S' := [.int 1]) rfl ?_
        refine aw_zret rfl rfl dX2_isPlace_11 ?_
        refine aw_re (S' := [.int 1]) rfl ?_
        refine aw_if_ne (npc := 38) (tgt := 42) dX7_mark_35 rfl (by decide) (fun _ => ?_) (fun hc => absurd hc (by decide))
        refine aw_aload (npc := 44) rfl dX7_mark_42 rfl ?_
        refine aw_get (npc := 47) dX7_mark_44 rfl kf_X7_279 (Rw sn (by omega)).1 rfl ?_
        refine aw_top (y := 0) esr ?_
        refine aw_if_ne (npc := 50) (tgt := 70) dX7_mark_47 rfl (by decide) (fun hc => absurd (by decide) hc) (fun _ => ?_)
        refine aw_iload_n (npc := 51) rfl dX7_mark_50 rfl ?_
        refine aw_ldc (npc := 53) kc_X7_200 dX7_mark_51 rfl ?_
        refine aw_icmp_ne (npc := 56) (tgt := 59) dX7_mark_53 rfl (by decide) (fun hc3 => ?_) (fun hc3 => ?_)
        · refine aw_aload (npc := 61) rfl dX7_mark_59 rfl ?_
          refine aw_get (npc := 64) dX7_mark_61 rfl kf_X7_218 (Rw sn (by omega)).1 rfl ?_
          refine aw_iload_n (npc := 65) rfl dX7_mark_64 rfl ?_
          refine aw_iload_n (npc := 66) rfl dX7_mark_65 rfl ?_
          refine aw_i2s (npc := 67) dX7_mark_66 rfl ?_
          refine aw_iast (npc := 68) (j := pn) dX7_mark_67 rfl (Rw sn (by omega)).2 (am_ix_nI (by omega)) (by rw [tl_len]; omega) rfl ?_
          have Rw4 := rw_cell (s := sn) (j := pn) (v := v.toInt16.toInt32) Rw (by omega)
          have O5 := ob_out (a := 47 + 2 * sn) (c := .inl (0, (tl 24 (fun i => cl (24 * sn + i))).set pn v.toInt16.toInt32)) (by omega) O
          refine aw_iconst (npc := 69) (v := 1) (by decide) dX7_mark_68 rfl ?_
          refine aw_iret rfl dX7_mark_69 ?_
          exact hq _ _ _ (by simp [mkK, mkV, mkC, cI, hw1, hw2, hc3, fsn, fpn, esr]) (by simp [mkK, mkV, mkC, cI, hw1, hw2, hc3, fsn, fpn, esr]) Rw4 (am_fpU (show ¬ ((47 + 2 * sn) < 46 ∨ 54 ≤ (47 + 2 * sn)) by omega) am_fp0)
        · subst hc3
          refine aw_ldc (npc := 58) kc_X7_123 dX7_mark_56 rfl ?_
          refine aw_iret rfl dX7_mark_58 ?_
          exact hq _ _ _ (by simp [mkK, mkV, mkC, cI, hw1, hw2, fsn, fpn, esr]) (by simp [mkK, mkV, mkC, cI, hw1, hw2, fsn, fpn, esr]) Rw am_fp0
      · refine aw_re (S' := [.int 0]) rfl ?_
        refine aw_zret rfl rfl dX2_isPlace_11 ?_
        refine aw_re (S' := [.int 0]) rfl ?_
        refine aw_if_ne (npc := 38) (tgt := 42) dX7_mark_35 rfl (by decide) (fun hc => absurd (by decide) hc) (fun _ => ?_)
        refine aw_ldcw (npc := 41) kc_X7_278 dX7_mark_38 rfl ?_
        refine aw_iret rfl dX7_mark_41 ?_
        exact hq _ _ _ (by simp [mkK, mkV, mkC, cI, hw1, hw2, fsn, esr]) (by simp [mkK, mkV, mkC, cI, hw1, hw2, fsn, esr]) Rw am_fp0
    · refine aw_top (y := 1) esr ?_
      refine aw_iconst (npc := 5) (v := -1) (by decide) dX2_isMissing_4 rfl ?_
      refine aw_icmp_ne (npc := 8) (tgt := 12) dX2_isMissing_5 rfl (by decide) (fun _ => ?_) (fun hc => absurd hc (by decide))
      refine aw_iconst (npc := 13) (v := 0) (by decide) dX2_isMissing_12 rfl ?_
      refine aw_zret rfl rfl dX2_isMissing_13 ?_
      refine aw_re (S' := [.int 0]) rfl ?_
      refine aw_if_eq (npc := 26) (tgt := 29) dX7_mark_23 rfl (by decide) (fun _ => ?_) (fun hc => absurd (by decide) hc)
      refine aw_aload (npc := 31) rfl dX7_mark_29 rfl ?_
      refine aw_iload_n (npc := 32) rfl dX7_mark_31 rfl ?_
      refine aw_callV (npc := 35) (N := mX2_isPlace) (b := 46 + 2 * sn) (mc := 0) (ms := 0) (A := [.int p]) (S := []) (L0 := [some (.ref (46 + 2 * sn)), some (.int p)]) dX7_mark_32 rfl km_X2_isPlace kk_X7_275 (Rw sn (by omega)).1 ⟨by decide, rfl⟩ rfl ⟨rfl, by decide⟩ rfl (Nat.le_of_ble_eq_true rfl) (Nat.zero_add _) (Nat.zero_add _) rfl ?_
      refine aw_iload_n (npc := 1) rfl dX2_isPlace_0 rfl ?_
      refine aw_iconst (npc := 2) (v := 0) (by decide) dX2_isPlace_1 rfl ?_
      refine aw_aload_n (npc := 3) rfl dX2_isPlace_2 rfl ?_
      refine aw_get (npc := 6) dX2_isPlace_3 rfl kf_X2_15 (Rw sn (by omega)).1 rfl ?_
      refine aw_iconst (npc := 7) (v := 1) (by decide) dX2_isPlace_6 rfl ?_
      refine aw_isub (npc := 8) dX2_isPlace_7 rfl ?_
      refine aw_callSN (npc := 11) (N := mX7_within) (mc := 0) (ms := 0) (A := [.int p, .int 0, .int ((sz sn) - 1)]) (S := []) (L0 := [some (.int p), some (.int 0), some (.int ((sz sn) - 1))]) dX2_isPlace_8 rfl km_X7_within kk_X2_34 rfl ⟨rfl, by decide⟩ rfl (Nat.le_of_ble_eq_true rfl) (Nat.zero_add _) (Nat.zero_add _) rfl ?_
      refine c_X7_within (fun hw6 => ?_) (fun hw6 => ?_)
      · obtain ⟨pn, hpn, epn⟩ := wi_idx ez9 (by omega) hw6
        subst epn
        have fpn : fN (nI pn) = pn := fN_nI (by omega)
        refine aw_re (S' := [.int 1]) rfl ?_
        refine aw_zret rfl rfl dX2_isPlace_11 ?_
        refine aw_re (S' := [.int 1]) rfl ?_
        refine aw_if_ne (npc := 38) (tgt := 42) dX7_mark_35 rfl (by decide) (fun _ => ?_) (fun hc => absurd hc (by decide))
        refine aw_aload (npc := 44) rfl dX7_mark_42 rfl ?_
        refine aw_get (npc := 47) dX7_mark_44 rfl kf_X7_279 (Rw sn (by omega)).1 rfl ?_
        refine aw_top (y := 1) esr ?_
        refine aw_if_ne (npc := 50) (tgt := 70) dX7_mark_47 rfl (by decide) (fun _ => ?_) (fun hc => absurd hc (by decide))
        refine aw_iload_n (npc := 71) rfl dX7_mark_70 rfl ?_
        refine aw_ldc (npc := 73) kc_X7_200 dX7_mark_71 rfl ?_
        refine aw_icmp_eq (npc := 76) (tgt := 92) dX7_mark_73 rfl (by decide) (fun hc7 => ?_) (fun hc7 => ?_)
        · subst hc7
          refine aw_aload (npc := 94) rfl dX7_mark_92 rfl ?_
          refine aw_get (npc := 97) dX7_mark_94 rfl kf_X7_218 (Rw sn (by omega)).1 rfl ?_
          refine aw_iload_n (npc := 98) rfl dX7_mark_97 rfl ?_
          refine aw_iload_n (npc := 99) rfl dX7_mark_98 rfl ?_
          refine aw_iast (npc := 100) (j := pn) dX7_mark_99 rfl (Rw sn (by omega)).2 (am_ix_nI (by omega)) (by rw [tl_len]; omega) rfl ?_
          have Rw8 := rw_cell (s := sn) (j := pn) (v := (-1000000005)) Rw (by omega)
          have O9 := ob_out (a := 47 + 2 * sn) (c := .inl (0, (tl 24 (fun i => cl (24 * sn + i))).set pn (-1000000005))) (by omega) O
          refine aw_iconst (npc := 101) (v := 1) (by decide) dX7_mark_100 rfl ?_
          refine aw_iret rfl dX7_mark_101 ?_
          exact hq _ _ _ (by simp [mkK, mkV, mkC, cI, hw1, hw6, fsn, fpn, esr]) (by simp [mkK, mkV, mkC, cI, hw1, hw6, fsn, fpn, esr]) Rw8 (am_fpU (show ¬ ((47 + 2 * sn) < 46 ∨ 54 ≤ (47 + 2 * sn)) by omega) am_fp0)
        · refine aw_iload_n (npc := 77) rfl dX7_mark_76 rfl ?_
          refine aw_ldcw (npc := 80) kc_X7_282 dX7_mark_77 rfl ?_
          refine aw_ldcw (npc := 83) kc_X7_283 dX7_mark_80 rfl ?_
          refine aw_callS (npc := 86) (N := mX7_within) (mc := 0) (ms := 0) (A := [.int v, .int (-99999), .int 99999]) (S := []) (L0 := [some (.int v), some (.int (-99999)), some (.int 99999)]) dX7_mark_83 rfl km_X7_within kk_X7_74 rfl ⟨rfl, by decide⟩ rfl (Nat.le_of_ble_eq_true rfl) (Nat.zero_add _) (Nat.zero_add _) rfl ?_
          refine c_X7_within (fun hw10 => ?_) (fun hw10 => ?_)
          · refine aw_re (S' := [.int 1]) rfl ?_
            refine aw_if_ne (npc := 89) (tgt := 92) dX7_mark_86 rfl (by decide) (fun _ => ?_) (fun hc => absurd hc (by decide))
            refine aw_aload (npc := 94) rfl dX7_mark_92 rfl ?_
            refine aw_get (npc := 97) dX7_mark_94 rfl kf_X7_218 (Rw sn (by omega)).1 rfl ?_
            refine aw_iload_n (npc := 98) rfl dX7_mark_97 rfl ?_
            refine aw_iload_n (npc := 99) rfl dX7_mark_98 rfl ?_
            refine aw_iast (npc := 100) (j := pn) dX7_mark_99 rfl (Rw sn (by omega)).2 (am_ix_nI (by omega)) (by rw [tl_len]; omega) rfl ?_
            have Rw11 := rw_cell (s := sn) (j := pn) (v := v) Rw (by omega)
            have O12 := ob_out (a := 47 + 2 * sn) (c := .inl (0, (tl 24 (fun i => cl (24 * sn + i))).set pn v)) (by omega) O
            refine aw_iconst (npc := 101) (v := 1) (by decide) dX7_mark_100 rfl ?_
            refine aw_iret rfl dX7_mark_101 ?_
            exact hq _ _ _ (by simp [mkK, mkV, mkC, cI, hw1, hw6, hc7, hw10, fsn, fpn, esr]) (by simp [mkK, mkV, mkC, cI, hw1, hw6, hc7, hw10, fsn, fpn, esr]) Rw11 (am_fpU (show ¬ ((47 + 2 * sn) < 46 ∨ 54 ≤ (47 + 2 * sn)) by omega) am_fp0)
          · refine aw_re (S' := [.int 0]) rfl ?_
            refine aw_if_ne (npc := 89) (tgt := 92) dX7_mark_86 rfl (by decide) (fun hc => absurd (by decide) hc) (fun _ => ?_)
            refine aw_ldc (npc := 91) kc_X7_78 dX7_mark_89 rfl ?_
            refine aw_iret rfl dX7_mark_91 ?_
            exact hq _ _ _ (by simp [mkK, mkV, mkC, cI, hw1, hw6, hc7, hw10, fsn, fpn, esr]) (by simp [mkK, mkV, mkC, cI, hw1, hw6, hc7, hw10, fsn, fpn, esr]) Rw am_fp0
      · refine aw_re (S' := [.int 0]) rfl ?_
        refine aw_zret rfl rfl dX2_isPlace_11 ?_
        refine aw_re (S' := [.int 0]) rfl ?_
        refine aw_if_ne (npc := 38) (tgt := 42) dX7_mark_35 rfl (by decide) (fun hc => absurd (by decide) hc) (fun _ => ?_)
        refine aw_ldcw (npc := 41) kc_X7_278 dX7_mark_38 rfl ?_
        refine aw_iret rfl dX7_mark_41 ?_
        exact hq _ _ _ (by simp [mkK, mkV, mkC, cI, hw1, hw6, fsn, esr]) (by simp [mkK, mkV, mkC, cI, hw1, hw6, fsn, esr]) Rw am_fp0
  · refine aw_re (S' := [.int 0]) rfl ?_
    refine aw_if_ne (npc := 7) (tgt := 10) dX7_mark_4 rfl (by decide) (fun hc => absurd (by decide) hc) (fun _ => ?_)
    refine aw_ldc (npc := 9) kc_X7_78 dX7_mark_7 rfl ?_
    refine aw_iret rfl dX7_mark_9 ?_
    exact hq _ _ _ (by simp [mkK, mkV, mkC, cI, hw1]) (by simp [mkK, mkV, mkC, cI, hw1]) Rw am_fp0
set_option maxHeartbeats 4000000 in
set_option maxRecDepth 100000 in
theorem M_mark {X : List Int32} {d rc rs n : Nat} {Q : am_Q} {h : am_H} {o N : Nat → Int32} {a : Nat → Nat → Int32} {fr c : Nat} {s : Int32} {p : Int32} {v : Int32} (F : MR o N a h) (hI : RI (a 83) (a 84)) (hq : ∀ v9 a9 h9, v9 = mkV (a 83) (a 84) s p v → a9 85 = mkC (a 83) (a 84) s p v (a 85) → (∀ c, c ≠ 85 → a9 c = a c) → MR o N a9 h9 → am_fp (fun k => k < 69 ∨ 92 ≤ k) h9 h → Q (some (.int v9)) n h9) : AW X mX8_mark (d + 12) rc rs 0 [some (.ref 69), some (.int s), some (.int p), some (.int v)] [] n h Q := by
  refine aw_iload_n (npc := 1) rfl dX8_mark_0 rfl ?_
  refine aw_callS (npc := 4) (N := mX8_isSheet) (mc := 0) (ms := 0) (A := [.int s]) (S := []) (L0 := [some (.int s)]) dX8_mark_1 rfl km_X8_isSheet kk_X8_184 rfl ⟨rfl, by decide⟩ rfl (Nat.le_of_ble_eq_true rfl) (Nat.zero_add _) (Nat.zero_add _) rfl ?_
  refine c_X8_isSheet (fun hw1 => ?_) (fun hw1 => ?_)
  · obtain ⟨sn, hsn, esn⟩ := wi_nI (H := 3) (by decide) (by decide) hw1
    subst esn
    have fsn : fN (nI sn) = sn := fN_nI (by omega)
    obtain ⟨hsr, z9, hz24, ez9⟩ := hI sn (by omega)
    refine aw_re (S' := [.int 1]) rfl ?_
    refine aw_if_ne (npc := 7) (tgt := 10) dX8_mark_4 rfl (by decide) (fun _ => ?_) (fun hc => absurd hc (by decide))
    refine aw_aload_n (npc := 11) rfl dX8_mark_10 rfl ?_
    refine aw_get (npc := 14) dX8_mark_11 rfl kf_X8_55 F.1 rfl ?_
    refine aw_iload_n (npc := 15) rfl dX8_mark_14 rfl ?_
    refine aw_iald (npc := 16) (x := (a 83) sn) (j := sn) dX8_mark_15 rfl F.2.2.2.2.2.2.2.2.2.2.2.2.2.2.1 (am_ix_nI (by omega)) (tl_at (by omega)) ?_
    rcases wi_cm1_1 hsr with esr | esr | esr
    · refine aw_top (y := -1) esr ?_
      refine aw_if_ge (npc := 19) (tgt := 22) dX8_mark_16 rfl (by decide) (fun hc => absurd hc (by decide)) (fun _ => ?_)
      refine aw_ldc (npc := 21) kc_X8_187 dX8_mark_19 rfl ?_
      refine aw_iret rfl dX8_mark_21 ?_
      exact hq _ _ _ (by simp [mkK, mkV, mkC, cI, hw1, fsn, esr]) (by simp [mkK, mkV, mkC, cI, hw1, fsn, esr, aup_s]) (fun c hc => rfl) F am_fp0
    · refine aw_top (y := 0) esr ?_
      refine aw_if_ge (npc := 19) (tgt := 22) dX8_mark_16 rfl (by decide) (fun _ => ?_) (fun hc => absurd (by decide) hc)
      refine aw_iload_n (npc := 23) rfl dX8_mark_22 rfl ?_
      refine aw_iconst (npc := 24) (v := 0) (by decide) dX8_mark_23 rfl ?_
      refine aw_aload_n (npc := 25) rfl dX8_mark_24 rfl ?_
      refine aw_get (npc := 28) dX8_mark_25 rfl kf_X8_58 F.1 rfl ?_
      refine aw_iload_n (npc := 29) rfl dX8_mark_28 rfl ?_
      refine aw_iald (npc := 30) (x := (a 84) sn) (j := sn) dX8_mark_29 rfl F.2.2.2.2.2.2.2.2.2.2.2.2.2.2.2.1 (am_ix_nI (by omega)) (tl_at (by omega)) ?_
      refine aw_iconst (npc := 31) (v := 1) (by decide) dX8_mark_30 rfl ?_
      refine aw_isub (npc := 32) dX8_mark_31 rfl ?_
      refine aw_callS (npc := 35) (N := mX8_in) (mc := 0) (ms := 0) (A := [.int p, .int 0, .int (((a 84) sn) - 1)]) (S := []) (L0 := [some (.int p), some (.int 0), some (.int (((a 84) sn) - 1))]) dX8_mark_32 rfl km_X8_in kk_X8_83 rfl ⟨rfl, by decide⟩ rfl (Nat.le_of_ble_eq_true rfl) (Nat.zero_add _) (Nat.zero_add _) rfl ?_
      refine c_X8_in (fun hw2 => ?_) (fun hw2 => ?_)
      · obtain ⟨pn, hpn, epn⟩ := wi_idx ez9 (by omega) hw2
        subst epn
        have fpn : fN (nI pn) = pn := fN_nI (by omega)
        refine aw_re (S' := [.int 1]) rfl ?_
        refine aw_if_ne (npc := 38) (tgt := 42) dX8_mark_35 rfl (by decide) (fun _ => ?_) (fun hc => absurd hc (by decide))
        refine aw_aload_n (npc := 43) rfl dX8_mark_42 rfl ?_
        refine aw_get (npc := 46) dX8_mark_43 rfl kf_X8_55 F.1 rfl ?_
        refine aw_iload_n (npc := 47) rfl dX8_mark_46 rfl ?_
        refine aw_iald (npc := 48) (x := (a 83) sn) (j := sn) dX8_mark_47 rfl F.2.2.2.2.2.2.2.2.2.2.2.2.2.2.1 (am_ix_nI (by omega)) (tl_at (by omega)) ?_
        refine aw_top (y := 0) esr ?_
        refine aw_if_ne (npc := 51) (tgt := 60) dX8_mark_48 rfl (by decide) (fun hc => absurd (by decide) hc) (fun _ => ?_)
        refine aw_iload_n (npc := 52) rfl dX8_mark_51 rfl ?_
        refine aw_ldc (npc := 54) kc_X8_82 dX8_mark_52 rfl ?_
        refine aw_icmp_ne (npc := 57) (tgt := 60) dX8_mark_54 rfl (by decide) (fun hc3 => ?_) (fun hc3 => ?_)
        · refine aw_aload_n (npc := 61) rfl dX8_mark_60 rfl ?_
          refine aw_get (npc := 64) dX8_mark_61 rfl kf_X8_55 F.1 rfl ?_
          refine aw_iload_n (npc := 65) rfl dX8_mark_64 rfl ?_
          refine aw_iald (npc := 66) (x := (a 83) sn) (j := sn) dX8_mark_65 rfl F.2.2.2.2.2.2.2.2.2.2.2.2.2.2.1 (am_ix_nI (by omega)) (tl_at (by omega)) ?_
          refine aw_top (y := 0) esr ?_
          refine aw_iconst (npc := 67) (v := 1) (by decide) dX8_mark_66 rfl ?_
          refine aw_icmp_ne (npc := 70) (tgt := 92) dX8_mark_67 rfl (by decide) (fun _ => ?_) (fun hc => absurd hc (by decide))
          refine aw_aload_n (npc := 93) rfl dX8_mark_92 rfl ?_
          refine aw_get (npc := 96) dX8_mark_93 rfl kf_X8_61 F.1 rfl ?_
          refine aw_bipush (npc := 98) (v := 24) (by decide) dX8_mark_96 rfl ?_
          refine aw_iload_n (npc := 99) rfl dX8_mark_98 rfl ?_
          refine aw_imulV (npc := 100) (v := nI (24 * sn)) dX8_mark_99 rfl (pk_mul 24 _) ?_
          refine aw_iload_n (npc := 101) rfl dX8_mark_100 rfl ?_
          refine aw_iaddV (npc := 102) (v := nI ((24 * sn) + pn)) dX8_mark_101 rfl (nI_add _ _) ?_
          refine aw_aload_n (npc := 103) rfl dX8_mark_102 rfl ?_
          refine aw_get (npc := 106) dX8_mark_103 rfl kf_X8_55 F.1 rfl ?_
          refine aw_iload_n (npc := 107) rfl dX8_mark_106 rfl ?_
          refine aw_iald (npc := 108) (x := (a 83) sn) (j := sn) dX8_mark_107 rfl F.2.2.2.2.2.2.2.2.2.2.2.2.2.2.1 (am_ix_nI (by omega)) (tl_at (by omega)) ?_
          refine aw_top (y := 0) esr ?_
          refine aw_if_ne (npc := 111) (tgt := 116) dX8_mark_108 rfl (by decide) (fun hc => absurd (by decide) hc) (fun _ => ?_)
          refine aw_iload_n (npc := 112) rfl dX8_mark_111 rfl ?_
          refine aw_i2s (npc := 113) dX8_mark_112 rfl ?_
          refine aw_goto (npc := 117) dX8_mark_113 (by decide) ?_
          refine aw_iast (npc := 118) (j := ((24 * sn) + pn)) dX8_mark_117 rfl F.2.2.2.2.2.2.2.2.2.2.2.2.2.2.2.2.1 (am_ix_nI (by omega)) (by rw [tl_len]; omega) rfl ?_
          have F4 := mr_85 (j := ((24 * sn) + pn)) (v := v.toInt16.toInt32) F
          refine aw_iconst (npc := 119) (v := 1) (by decide) dX8_mark_118 rfl ?_
          refine aw_iret rfl dX8_mark_119 ?_
          exact hq _ _ _ (by simp [mkK, mkV, mkC, cI, hw1, hw2, hc3, fsn, fpn, esr]) (by simp [mkK, mkV, mkC, cI, hw1, hw2, hc3, fsn, fpn, esr, aup_s]) (fun c hc => aup_n hc) F4 (am_fpU (show ¬ (85 < 69 ∨ 92 ≤ 85) by omega) am_fp0)
        · subst hc3
          refine aw_ldc (npc := 59) kc_X8_134 dX8_mark_57 rfl ?_
          refine aw_iret rfl dX8_mark_59 ?_
          exact hq _ _ _ (by simp [mkK, mkV, mkC, cI, hw1, hw2, fsn, fpn, esr]) (by simp [mkK, mkV, mkC, cI, hw1, hw2, fsn, fpn, esr, aup_s]) (fun c hc => rfl) F am_fp0
      · refine aw_re (S' := [.int 0]) rfl ?_
        refine aw_if_ne (npc := 38) (tgt := 42) dX8_mark_35 rfl (by decide) (fun hc => absurd (by decide) hc) (fun _ => ?_)
        refine aw_ldcw (npc := 41) kc_X8_259 dX8_mark_38 rfl ?_
        refine aw_iret rfl dX8_mark_41 ?_
        exact hq _ _ _ (by simp [mkK, mkV, mkC, cI, hw1, hw2, fsn, esr]) (by simp [mkK, mkV, mkC, cI, hw1, hw2, fsn, esr, aup_s]) (fun c hc => rfl) F am_fp0
    · refine aw_top (y := 1) esr ?_
      refine aw_if_ge (npc := 19) (tgt := 22) dX8_mark_16 rfl (by decide) (fun _ => ?_) (fun hc => absurd (by decide) hc)
      refine aw_iload_n (npc := 23) rfl dX8_mark_22 rfl ?_
      refine aw_iconst (npc := 24) (v := 0) (by decide) dX8_mark_23 rfl ?_
      refine aw_aload_n (npc := 25) rfl dX8_mark_24 rfl ?_
      refine aw_get (npc := 28) dX8_mark_25 rfl kf_X8_58 F.1 rfl ?_
      refine aw_iload_n (npc := 29) rfl dX8_mark_28 rfl ?_
      refine aw_iald (npc := 30) (x := (a 84) sn) (j := sn) dX8_mark_29 rfl F.2.2.2.2.2.2.2.2.2.2.2.2.2.2.2.1 (am_ix_nI (by omega)) (tl_at (by omega)) ?_
      refine aw_iconst (npc := 31) (v := 1) (by decide) dX8_mark_30 rfl ?_
      refine aw_isub (npc := 32) dX8_mark_31 rfl ?_
      refine aw_callS (npc := 35) (N := mX8_in) (mc := 0) (ms := 0) (A := [.int p, .int 0, .int (((a 84) sn) - 1)]) (S := []) (L0 := [some (.int p), some (.int 0), some (.int (((a 84) sn) - 1))]) dX8_mark_32 rfl km_X8_in kk_X8_83 rfl ⟨rfl, by decide⟩ rfl (Nat.le_of_ble_eq_true rfl) (Nat.zero_add _) (Nat.zero_add _) rfl ?_
      refine c_X8_in (fun hw5 => ?_) (fun hw5 => ?_)
      · obtain ⟨pn, hpn, epn⟩ := wi_idx ez9 (by omega) hw5
        subst epn
        have fpn : fN (nI pn) = pn := fN_nI (by omega)
        refine aw_re (S' := [.int 1]) rfl ?_
        refine aw_if_ne (npc := 38) (tgt := 42) dX8_mark_35 rfl (by decide) (fun _ => ?_) (fun hc => absurd hc (by decide))
        refine aw_aload_n (npc := 43) rfl dX8_mark_42 rfl ?_
        refine aw_get (npc := 46) dX8_mark_43 rfl kf_X8_55 F.1 rfl ?_
        refine aw_iload_n (npc := 47) rfl dX8_mark_46 rfl ?_
        refine aw_iald (npc := 48) (x := (a 83) sn) (j := sn) dX8_mark_47 rfl F.2.2.2.2.2.2.2.2.2.2.2.2.2.2.1 (am_ix_nI (by omega)) (tl_at (by omega)) ?_
        refine aw_top (y := 1) esr ?_
        refine aw_if_ne (npc := 51) (tgt := 60) dX8_mark_48 rfl (by decide) (fun _ => ?_) (fun hc => absurd hc (by decide))
        refine aw_aload_n (npc := 61) rfl dX8_mark_60 rfl ?_
        refine aw_get (npc := 64) dX8_mark_61 rfl kf_X8_55 F.1 rfl ?_
        refine aw_iload_n (npc := 65) rfl dX8_mark_64 rfl ?_
        refine aw_iald (npc := 66) (x := (a 83) sn) (j := sn) dX8_mark_65 rfl F.2.2.2.2.2.2.2.2.2.2.2.2.2.2.1 (am_ix_nI (by omega)) (tl_at (by omega)) ?_
        refine aw_top (y := 1) esr ?_
        refine aw_iconst (npc := 67) (v := 1) (by decide) dX8_mark_66 rfl ?_
        refine aw_icmp_ne (npc := 70) (tgt := 92) dX8_mark_67 rfl (by decide) (fun hc => absurd (by decide) hc) (fun _ => ?_)
        refine aw_iload_n (npc := 71) rfl dX8_mark_70 rfl ?_
        refine aw_ldc (npc := 73) kc_X8_82 dX8_mark_71 rfl ?_
        refine aw_icmp_eq (npc := 76) (tgt := 92) dX8_mark_73 rfl (by decide) (fun hc6 => ?_) (fun hc6 => ?_)
        · subst hc6
          refine aw_aload_n (npc := 93) rfl dX8_mark_92 rfl ?_
          refine aw_get (npc := 96) dX8_mark_93 rfl kf_X8_61 F.1 rfl ?_
          refine aw_bipush (npc := 98) (v := 24) (by decide) dX8_mark_96 rfl ?_
          refine aw_iload_n (npc := 99) rfl dX8_mark_98 rfl ?_
          refine aw_imulV (npc := 100) (v := nI (24 * sn)) dX8_mark_99 rfl (pk_mul 24 _) ?_
          refine aw_iload_n (npc := 101) rfl dX8_mark_100 rfl ?_
          refine aw_iaddV (npc := 102) (v := nI ((24 * sn) + pn)) dX8_mark_101 rfl (nI_add _ _) ?_
          refine aw_aload_n (npc := 103) rfl dX8_mark_102 rfl ?_
          refine aw_get (npc := 106) dX8_mark_103 rfl kf_X8_55 F.1 rfl ?_
          refine aw_iload_n (npc := 107) rfl dX8_mark_106 rfl ?_
          refine aw_iald (npc := 108) (x := (a 83) sn) (j := sn) dX8_mark_107 rfl F.2.2.2.2.2.2.2.2.2.2.2.2.2.2.1 (am_ix_nI (by omega)) (tl_at (by omega)) ?_
          refine aw_top (y := 1) esr ?_
          refine aw_if_ne (npc := 111) (tgt := 116) dX8_mark_108 rfl (by decide) (fun _ => ?_) (fun hc => absurd hc (by decide))
          refine aw_iload_n (npc := 117) rfl dX8_mark_116 rfl ?_
          refine aw_iast (npc := 118) (j := ((24 * sn) + pn)) dX8_mark_117 rfl F.2.2.2.2.2.2.2.2.2.2.2.2.2.2.2.2.1 (am_ix_nI (by omega)) (by rw [tl_len]; omega) rfl ?_
          have F7 := mr_85 (j := ((24 * sn) + pn)) (v := (-1000000005)) F
          refine aw_iconst (npc := 119) (v := 1) (by decide) dX8_mark_118 rfl ?_
          refine aw_iret rfl dX8_mark_119 ?_
          exact hq _ _ _ (by simp [mkK, mkV, mkC, cI, hw1, hw5, fsn, fpn, esr]) (by simp [mkK, mkV, mkC, cI, hw1, hw5, fsn, fpn, esr, aup_s]) (fun c hc => aup_n hc) F7 (am_fpU (show ¬ (85 < 69 ∨ 92 ≤ 85) by omega) am_fp0)
        · refine aw_iload_n (npc := 77) rfl dX8_mark_76 rfl ?_
          refine aw_ldcw (npc := 80) kc_X8_260 dX8_mark_77 rfl ?_
          refine aw_ldcw (npc := 83) kc_X8_261 dX8_mark_80 rfl ?_
          refine aw_callS (npc := 86) (N := mX8_in) (mc := 0) (ms := 0) (A := [.int v, .int (-99999), .int 99999]) (S := []) (L0 := [some (.int v), some (.int (-99999)), some (.int 99999)]) dX8_mark_83 rfl km_X8_in kk_X8_83 rfl ⟨rfl, by decide⟩ rfl (Nat.le_of_ble_eq_true rfl) (Nat.zero_add _) (Nat.zero_add _) rfl ?_
          refine c_X8_in (fun hw8 => ?_) (fun hw8 => ?_)
          · refine aw_re (S' := [.int 1]) rfl ?_
            refine aw_if_ne (npc := 89) (tgt := 92) dX8_mark_86 rfl (by decide) (fun _ => ?_) (fun hc => absurd hc (by decide))
            refine aw_aload_n (npc := 93) rfl dX8_mark_92 rfl ?_
            refine aw_get (npc := 96) dX8_mark_93 rfl kf_X8_61 F.1 rfl ?_
            refine aw_bipush (npc := 98) (v := 24) (by decide) dX8_mark_96 rfl ?_
            refine aw_iload_n (npc := 99) rfl dX8_mark_98 rfl ?_
            refine aw_imulV (npc := 100) (v := nI (24 * sn)) dX8_mark_99 rfl (pk_mul 24 _) ?_
            refine aw_iload_n (npc := 101) rfl dX8_mark_100 rfl ?_
            refine aw_iaddV (npc := 102) (v := nI ((24 * sn) + pn)) dX8_mark_101 rfl (nI_add _ _) ?_
            refine aw_aload_n (npc := 103) rfl dX8_mark_102 rfl ?_
            refine aw_get (npc := 106) dX8_mark_103 rfl kf_X8_55 F.1 rfl ?_
            refine aw_iload_n (npc := 107) rfl dX8_mark_106 rfl ?_
            refine aw_iald (npc := 108) (x := (a 83) sn) (j := sn) dX8_mark_107 rfl F.2.2.2.2.2.2.2.2.2.2.2.2.2.2.1 (am_ix_nI (by omega)) (tl_at (by omega)) ?_
            refine aw_top (y := 1) esr ?_
            refine aw_if_ne (npc := 111) (tgt := 116) dX8_mark_108 rfl (by decide) (fun _ => ?_) (fun hc => absurd hc (by decide))
            refine aw_iload_n (npc := 117) rfl dX8_mark_116 rfl ?_
            refine aw_iast (npc := 118) (j := ((24 * sn) + pn)) dX8_mark_117 rfl F.2.2.2.2.2.2.2.2.2.2.2.2.2.2.2.2.1 (am_ix_nI (by omega)) (by rw [tl_len]; omega) rfl ?_
            have F9 := mr_85 (j := ((24 * sn) + pn)) (v := v) F
            refine aw_iconst (npc := 119) (v := 1) (by decide) dX8_mark_118 rfl ?_
            refine aw_iret rfl dX8_mark_119 ?_
            exact hq _ _ _ (by simp [mkK, mkV, mkC, cI, hw1, hw5, hc6, hw8, fsn, fpn, esr]) (by simp [mkK, mkV, mkC, cI, hw1, hw5, hc6, hw8, fsn, fpn, esr, aup_s]) (fun c hc => aup_n hc) F9 (am_fpU (show ¬ (85 < 69 ∨ 92 ≤ 85) by omega) am_fp0)
          · refine aw_re (S' := [.int 0]) rfl ?_
            refine aw_if_ne (npc := 89) (tgt := 92) dX8_mark_86 rfl (by decide) (fun hc => absurd (by decide) hc) (fun _ => ?_)
            refine aw_ldc (npc := 91) kc_X8_91 dX8_mark_89 rfl ?_
            refine aw_iret rfl dX8_mark_91 ?_
            exact hq _ _ _ (by simp [mkK, mkV, mkC, cI, hw1, hw5, hc6, hw8, fsn, fpn, esr]) (by simp [mkK, mkV, mkC, cI, hw1, hw5, hc6, hw8, fsn, fpn, esr, aup_s]) (fun c hc => rfl) F am_fp0
      · refine aw_re (S' := [.int 0]) rfl ?_
        refine aw_if_ne (npc := 38) (tgt := 42) dX8_mark_35 rfl (by decide) (fun hc => absurd (by decide) hc) (fun _ => ?_)
        refine aw_ldcw (npc := 41) kc_X8_259 dX8_mark_38 rfl ?_
        refine aw_iret rfl dX8_mark_41 ?_
        exact hq _ _ _ (by simp [mkK, mkV, mkC, cI, hw1, hw5, fsn, esr]) (by simp [mkK, mkV, mkC, cI, hw1, hw5, fsn, esr, aup_s]) (fun c hc => rfl) F am_fp0
  · refine aw_re (S' := [.int 0]) rfl ?_
    refine aw_if_ne (npc := 7) (tgt := 10) dX8_mark_4 rfl (by decide) (fun hc => absurd (by decide) hc) (fun _ => ?_)
    refine aw_ldc (npc := 9) kc_X8_91 dX8_mark_7 rfl ?_
    refine aw_iret rfl dX8_mark_9 ?_
    exact hq _ _ _ (by simp [mkK, mkV, mkC, cI, hw1]) (by simp [mkK, mkV, mkC, cI, hw1, aup_s]) (fun c hc => rfl) F am_fp0
def SI (th kd zs : Nat → Int32) : Prop := ∀ s, s < 5 → wi (th s) 0 3 ∧ wi (kd s) 0 5 ∧ ∃ z, z ≤ 24 ∧ zs s = nI z
def SMI (hd hA : Nat → Int32) : Prop := ∀ s, s < 5 → wi (hd s) 0 3 ∧ (hd s = 1 → wi (hA s) 0 5) ∧ (hd s = 2 → ∃ z, z ≤ 24 ∧ hA s = nI z)
noncomputable def akC (th kd pr : Nat → Int32) (s k : Int32) : Int32 := cI (wi s 0 4 ∧ wi k 0 5) (cI (th (fN s) = 0) (-1000000011) (cI (th (fN s) = 1) (cI (undr (kd (fN s)) k = true) (wort (kd (fN s)) (pr (fN s))) (-1000000012)) (-1000000012))) (-1000000001)
noncomputable def akM (hd hA hB : Nat → Int32) (s k : Int32) : Int32 := cI (wi s 0 4 ∧ wi k 0 5) (cI (hd (fN s) = 0) (-1000000011) (cI (hd (fN s) = 1) (cI (undr (hA (fN s)) k = true) (hB (fN s)) (-1000000012)) (-1000000012))) (-1000000001)
noncomputable def itV (hd zs hc : Nat → Int32) (s p : Int32) : Int32 := cI (wi s 0 4) (cI (hd (fN s) = 0) (-1000000011) (cI (hd (fN s) = 2) (cI (wi p 0 (zs (fN s) - 1)) (cI (hc (24 * fN s + fN p) = (-1000000005)) (-1000000012) (hc (24 * fN s + fN p))) (-1000000013)) (-1000000012))) (-1000000001)
noncomputable def reV (hd nu : Nat → Int32) (s k : Int32) : Int32 := cI (wi s 0 4) (cI (hd (fN s) = 0) (-1000000011) (cI (hd (fN s) = 3) (cI (k = 0) (-1000000002) (nu (fN s) - nu (fN s) / k * k)) (-1000000012))) (-1000000001)
theorem rem_m1 (x : Int32) : x - x / (-1) * (-1) = 0 := by
  have e : x / (-1) = -x := by
    apply Int32.toInt_inj.mp
    have z : (-1 : Int32).toInt = -1 := by decide
    rw [Int32.toInt_div, z, Int.tdiv_neg, Int.tdiv_one, Int32.toInt_neg]
  rw [e, Int32.neg_mul, Int32.mul_neg, Int32.neg_neg, Int32.mul_one, Int32.sub_self]
set_option maxHeartbeats 4000000 in
set_option maxRecDepth 100000 in
theorem C_ask {X : List Int32} {d rc rs n : Nat} {Q : am_Q} {h : am_H} {N : Nat → Int32} {tx : List Value} {lk mv : Nat → Int32} {ik wc : Int32} {fr c : Nat} {s : Int32} {k : Int32} {th kd pr nu ss zs hc : Nat → Int32} (O : OB ik wc h) (Sl : SL th kd pr nu ss zs hc h) (hI : SI th kd zs) (hq : Q (some (.int (akC th kd pr s k))) n h) : AW X mX7_ask (d + 12) rc rs 0 [some (.ref 0), some (.int s), some (.int k), none] [] n h Q := by
  refine aw_iload_n (npc := 1) rfl dX7_ask_0 rfl ?_
  refine aw_callS (npc := 4) (N := mX7_isSlot) (mc := 0) (ms := 0) (A := [.int s]) (S := []) (L0 := [some (.int s)]) dX7_ask_1 rfl km_X7_isSlot kk_X7_299 rfl ⟨rfl, by decide⟩ rfl (Nat.le_of_ble_eq_true rfl) (Nat.zero_add _) (Nat.zero_add _) rfl ?_
  refine c_X7_isSlot (fun hw1 => ?_) (fun hw1 => ?_)
  · obtain ⟨sn, hsn, esn⟩ := wi_nI (H := 4) (by decide) (by decide) hw1
    subst esn
    have fsn : fN (nI sn) = sn := fN_nI (by omega)
    obtain ⟨hth, hkd, z9, hz24, ez9⟩ := hI sn (by omega)
    refine aw_re (S' := [.int 1]) rfl ?_
    refine aw_if_eq (npc := 7) (tgt := 14) dX7_ask_4 rfl (by decide) (fun hc => absurd hc (by decide)) (fun _ => ?_)
    refine aw_iload_n (npc := 8) rfl dX7_ask_7 rfl ?_
    refine aw_callS (npc := 11) (N := mX7_isKind) (mc := 0) (ms := 0) (A := [.int k]) (S := []) (L0 := [some (.int k)]) dX7_ask_8 rfl km_X7_isKind kk_X7_67 rfl ⟨rfl, by decide⟩ rfl (Nat.le_of_ble_eq_true rfl) (Nat.zero_add _) (Nat.zero_add _) rfl ?_
    refine c_X7_isKind (fun hw2 => ?_) (fun hw2 => ?_)
    · refine aw_re (S' := [.int 1]) rfl ?_
      refine aw_if_ne (npc := 14) (tgt := 17) dX7_ask_11 rfl (by decide) (fun _ => ?_) (fun hc => absurd hc (by decide))
      refine aw_aload_n (npc := 18) rfl dX7_ask_17 rfl ?_
      refine aw_get (npc := 21) dX7_ask_18 rfl kf_X7_53 O.1 rfl ?_
      refine aw_iload_n (npc := 22) rfl dX7_ask_21 rfl ?_
      refine aw_aald (npc := 23) (j := sn) dX7_ask_22 rfl (by decide) O.2.2 (am_ix_nI (by omega)) (sl_at (by omega)) ?_
      refine aw_astore_n (npc := 24) (L' := [some (.ref 0), some (.int (nI sn)), some (.int k), some (.ref (54 + 3 * sn))]) dX7_ask_23 rfl (by decide) rfl rfl ?_
      refine aw_aload_n (npc := 25) rfl dX7_ask_24 rfl ?_
      refine aw_get (npc := 28) dX7_ask_25 rfl kf_X7_302 (Sl sn (by omega)).1 rfl ?_
      rcases wi_c0_3 hth with eth | eth | eth | eth
      · refine aw_top (y := 0) eth ?_
        refine aw_if_ne (npc := 31) (tgt := 34) dX7_ask_28 rfl (by decide) (fun hc => absurd (by decide) hc) (fun _ => ?_)
        refine aw_ldc (npc := 33) kc_X7_210 dX7_ask_31 rfl ?_
        refine aw_iret rfl dX7_ask_33 ?_
        exact (show akC th kd pr (nI sn) k = (-1000000011) by simp [akC, cI, hw1, hw2, fsn, eth]) ▸ hq
      · refine aw_top (y := 1) eth ?_
        refine aw_if_ne (npc := 31) (tgt := 34) dX7_ask_28 rfl (by decide) (fun _ => ?_) (fun hc => absurd hc (by decide))
        refine aw_aload_n (npc := 35) rfl dX7_ask_34 rfl ?_
        refine aw_get (npc := 38) dX7_ask_35 rfl kf_X7_302 (Sl sn (by omega)).1 rfl ?_
        refine aw_top (y := 1) eth ?_
        refine aw_iconst (npc := 39) (v := 1) (by decide) dX7_ask_38 rfl ?_
        refine aw_icmp_ne (npc := 42) (tgt := 53) dX7_ask_39 rfl (by decide) (fun hc => absurd (by decide) hc) (fun _ => ?_)
        refine aw_aload_n (npc := 43) rfl dX7_ask_42 rfl ?_
        refine aw_get (npc := 46) dX7_ask_43 rfl kf_X7_305 (Sl sn (by omega)).1 rfl ?_
        refine aw_iload_n (npc := 47) rfl dX7_ask_46 rfl ?_
        refine aw_callS (npc := 50) (N := mX7_isUnder) (mc := 0) (ms := 0) (A := [.int (kd sn), .int k]) (S := []) (L0 := [some (.int (kd sn)), some (.int k), none, none]) dX7_ask_47 rfl km_X7_isUnder kk_X7_119 rfl ⟨rfl, by decide⟩ rfl (Nat.le_of_ble_eq_true rfl) (Nat.zero_add _) (Nat.zero_add _) rfl ?_
        refine c_X7_isUnder hkd hw2 ?_
        by_cases hu3 : undr (kd sn) k = true
        · refine aw_re (S' := [.int (if undr (kd sn) k then 1 else 0)]) rfl ?_
          refine aw_top (y := 1) (if_pos hu3) ?_
          refine aw_if_ne (npc := 53) (tgt := 56) dX7_ask_50 rfl (by decide) (fun _ => ?_) (fun hc => absurd hc (by decide))
          refine aw_aload_n (npc := 57) rfl dX7_ask_56 rfl ?_
          refine aw_get (npc := 60) dX7_ask_57 rfl kf_X7_305 (Sl sn (by omega)).1 rfl ?_
          refine aw_aload_n (npc := 61) rfl dX7_ask_60 rfl ?_
          refine aw_get (npc := 64) dX7_ask_61 rfl kf_X7_308 (Sl sn (by omega)).1 rfl ?_
          refine aw_callS (npc := 67) (N := mX7_worthOf) (mc := 0) (ms := 0) (A := [.int (kd sn), .int (pr sn)]) (S := []) (L0 := [some (.int (kd sn)), some (.int (pr sn))]) dX7_ask_64 rfl km_X7_worthOf kk_X7_115 rfl ⟨rfl, by decide⟩ rfl (Nat.le_of_ble_eq_true rfl) (Nat.zero_add _) (Nat.zero_add _) rfl ?_
          refine c_X7_worthOf ?_
          refine aw_re (S' := [.int (wort (kd sn) (pr sn))]) rfl ?_
          refine aw_iret rfl dX7_ask_67 ?_
          exact (show akC th kd pr (nI sn) k = (wort (kd sn) (pr sn)) by simp [akC, cI, hw1, hw2, hu3, fsn, eth]) ▸ hq
        · refine aw_re (S' := [.int (if undr (kd sn) k then 1 else 0)]) rfl ?_
          refine aw_top (y := 0) (if_neg hu3) ?_
          refine aw_if_ne (npc := 53) (tgt := 56) dX7_ask_50 rfl (by decide) (fun hc => absurd (by decide) hc) (fun _ => ?_)
          refine aw_ldc (npc := 55) kc_X7_123 dX7_ask_53 rfl ?_
          refine aw_iret rfl dX7_ask_55 ?_
          exact (show akC th kd pr (nI sn) k = (-1000000012) by simp [akC, cI, hw1, hw2, hu3, fsn, eth]) ▸ hq
      · refine aw_top (y := 2) eth ?_
        refine aw_if_ne (npc := 31) (tgt := 34) dX7_ask_28 rfl (by decide) (fun _ => ?_) (fun hc => absurd hc (by decide))
        refine aw_aload_n (npc := 35) rfl dX7_ask_34 rfl ?_
        refine aw_get (npc := 38) dX7_ask_35 rfl kf_X7_302 (Sl sn (by omega)).1 rfl ?_
        refine aw_top (y := 2) eth ?_
        refine aw_iconst (npc := 39) (v := 1) (by decide) dX7_ask_38 rfl ?_
        refine aw_icmp_ne (npc := 42) (tgt := 53) dX7_ask_39 rfl (by decide) (fun _ => ?_) (fun hc => absurd hc (by decide))
        refine aw_ldc (npc := 55) kc_X7_123 dX7_ask_53 rfl ?_
        refine aw_iret rfl dX7_ask_55 ?_
        exact (show akC th kd pr (nI sn) k = (-1000000012) by simp [akC, cI, hw1, hw2, fsn, eth]) ▸ hq
      · refine aw_top (y := 3) eth ?_
        refine aw_if_ne (npc := 31) (tgt := 34) dX7_ask_28 rfl (by decide) (fun _ => ?_) (fun hc => absurd hc (by decide))
        refine aw_aload_n (npc := 35) rfl dX7_ask_34 rfl ?_
        refine aw_get (npc := 38) dX7_ask_35 rfl kf_X7_302 (Sl sn (by omega)).1 rfl ?_
        refine aw_top (y := 3) eth ?_
        refine aw_iconst (npc := 39) (v := 1) (by decide) dX7_ask_38 rfl ?_
        refine aw_icmp_ne (npc := 42) (tgt := 53) dX7_ask_39 rfl (by decide) (fun _ => ?_) (fun hc => absurd hc (by decide))
        refine aw_ldc (npc := 55) kc_X7_123 dX7_ask_53 rfl ?_
        refine aw_iret rfl dX7_ask_55 ?_
        exact (show akC th kd pr (nI sn) k = (-1000000012) by simp [akC, cI, hw1, hw2, fsn, eth]) ▸ hq
    · refine aw_re (S' := [.int 0]) rfl ?_
      refine aw_if_ne (npc := 14) (tgt := 17) dX7_ask_11 rfl (by decide) (fun hc => absurd (by decide) hc) (fun _ => ?_)
      refine aw_ldc (npc := 16) kc_X7_78 dX7_ask_14 rfl ?_
      refine aw_iret rfl dX7_ask_16 ?_
      exact (show akC th kd pr (nI sn) k = (-1000000001) by simp [akC, cI, hw1, hw2, fsn]) ▸ hq
  · refine aw_re (S' := [.int 0]) rfl ?_
    refine aw_if_eq (npc := 7) (tgt := 14) dX7_ask_4 rfl (by decide) (fun _ => ?_) (fun hc => absurd (by decide) hc)
    refine aw_ldc (npc := 16) kc_X7_78 dX7_ask_14 rfl ?_
    refine aw_iret rfl dX7_ask_16 ?_
    exact (show akC th kd pr s k = (-1000000001) by simp [akC, cI, hw1]) ▸ hq
set_option maxHeartbeats 4000000 in
set_option maxRecDepth 100000 in
theorem M_ask {X : List Int32} {d rc rs n : Nat} {Q : am_Q} {h : am_H} {o N : Nat → Int32} {a : Nat → Nat → Int32} {fr c : Nat} {s : Int32} {k : Int32} (F : MR o N a h) (hI : SMI (a 86) (a 87)) (hq : Q (some (.int (akM (a 86) (a 87) (a 88) s k))) n h) : AW X mX8_ask (d + 12) rc rs 0 [some (.ref 69), some (.int s), some (.int k)] [] n h Q := by
  refine aw_iload_n (npc := 1) rfl dX8_ask_0 rfl ?_
  refine aw_callS (npc := 4) (N := mX8_isSlot) (mc := 0) (ms := 0) (A := [.int s]) (S := []) (L0 := [some (.int s)]) dX8_ask_1 rfl km_X8_isSlot kk_X8_262 rfl ⟨rfl, by decide⟩ rfl (Nat.le_of_ble_eq_true rfl) (Nat.zero_add _) (Nat.zero_add _) rfl ?_
  refine c_X8_isSlot (fun hw1 => ?_) (fun hw1 => ?_)
  · obtain ⟨sn, hsn, esn⟩ := wi_nI (H := 4) (by decide) (by decide) hw1
    subst esn
    have fsn : fN (nI sn) = sn := fN_nI (by omega)
    obtain ⟨hth, hkd, hzz⟩ := hI sn (by omega)
    refine aw_re (S' := [.int 1]) rfl ?_
    refine aw_if_eq (npc := 7) (tgt := 16) dX8_ask_4 rfl (by decide) (fun hc => absurd hc (by decide)) (fun _ => ?_)
    refine aw_iload_n (npc := 8) rfl dX8_ask_7 rfl ?_
    refine aw_iconst (npc := 9) (v := 0) (by decide) dX8_ask_8 rfl ?_
    refine aw_iconst (npc := 10) (v := 5) (by decide) dX8_ask_9 rfl ?_
    refine aw_callS (npc := 13) (N := mX8_in) (mc := 0) (ms := 0) (A := [.int k, .int 0, .int 5]) (S := []) (L0 := [some (.int k), some (.int 0), some (.int 5)]) dX8_ask_10 rfl km_X8_in kk_X8_83 rfl ⟨rfl, by decide⟩ rfl (Nat.le_of_ble_eq_true rfl) (Nat.zero_add _) (Nat.zero_add _) rfl ?_
    refine c_X8_in (fun hw2 => ?_) (fun hw2 => ?_)
    · refine aw_re (S' := [.int 1]) rfl ?_
      refine aw_if_ne (npc := 16) (tgt := 19) dX8_ask_13 rfl (by decide) (fun _ => ?_) (fun hc => absurd hc (by decide))
      refine aw_aload_n (npc := 20) rfl dX8_ask_19 rfl ?_
      refine aw_get (npc := 23) dX8_ask_20 rfl kf_X8_64 F.1 rfl ?_
      refine aw_iload_n (npc := 24) rfl dX8_ask_23 rfl ?_
      refine aw_iald (npc := 25) (x := (a 86) sn) (j := sn) dX8_ask_24 rfl F.2.2.2.2.2.2.2.2.2.2.2.2.2.2.2.2.2.1 (am_ix_nI (by omega)) (tl_at (by omega)) ?_
      rcases wi_c0_3 hth with eth | eth | eth | eth
      · refine aw_top (y := 0) eth ?_
        refine aw_if_ne (npc := 28) (tgt := 31) dX8_ask_25 rfl (by decide) (fun hc => absurd (by decide) hc) (fun _ => ?_)
        refine aw_ldc (npc := 30) kc_X8_187 dX8_ask_28 rfl ?_
        refine aw_iret rfl dX8_ask_30 ?_
        exact (show akM (a 86) (a 87) (a 88) (nI sn) k = (-1000000011) by simp [akM, cI, hw1, hw2, fsn, eth]) ▸ hq
      · refine aw_top (y := 1) eth ?_
        refine aw_if_ne (npc := 28) (tgt := 31) dX8_ask_25 rfl (by decide) (fun _ => ?_) (fun hc => absurd hc (by decide))
        refine aw_aload_n (npc := 32) rfl dX8_ask_31 rfl ?_
        refine aw_get (npc := 35) dX8_ask_32 rfl kf_X8_64 F.1 rfl ?_
        refine aw_iload_n (npc := 36) rfl dX8_ask_35 rfl ?_
        refine aw_iald (npc := 37) (x := (a 86) sn) (j := sn) dX8_ask_36 rfl F.2.2.2.2.2.2.2.2.2.2.2.2.2.2.2.2.2.1 (am_ix_nI (by omega)) (tl_at (by omega)) ?_
        refine aw_top (y := 1) eth ?_
        refine aw_iconst (npc := 38) (v := 1) (by decide) dX8_ask_37 rfl ?_
        refine aw_icmp_ne (npc := 41) (tgt := 63) dX8_ask_38 rfl (by decide) (fun hc => absurd (by decide) hc) (fun _ => ?_)
        refine aw_aload_n (npc := 42) rfl dX8_ask_41 rfl ?_
        refine aw_get (npc := 45) dX8_ask_42 rfl kf_X8_67 F.1 rfl ?_
        refine aw_iload_n (npc := 46) rfl dX8_ask_45 rfl ?_
        refine aw_iald (npc := 47) (x := (a 87) sn) (j := sn) dX8_ask_46 rfl F.2.2.2.2.2.2.2.2.2.2.2.2.2.2.2.2.2.2.1 (am_ix_nI (by omega)) (tl_at (by omega)) ?_
        refine aw_iload_n (npc := 48) rfl dX8_ask_47 rfl ?_
        refine aw_callS (npc := 51) (N := mX8_isUnder) (mc := 0) (ms := 0) (A := [.int ((a 87) sn), .int k]) (S := []) (L0 := [some (.int ((a 87) sn)), some (.int k)]) dX8_ask_48 rfl km_X8_isUnder kk_X8_130 rfl ⟨rfl, by decide⟩ rfl (Nat.le_of_ble_eq_true rfl) (Nat.zero_add _) (Nat.zero_add _) rfl ?_
        refine c_X8_isUnder (hkd eth) hw2 ?_
        by_cases hu3 : undr ((a 87) sn) k = true
        · refine aw_re (S' := [.int (if undr ((a 87) sn) k then 1 else 0)]) rfl ?_
          refine aw_top (y := 1) (if_pos hu3) ?_
          refine aw_if_eq (npc := 54) (tgt := 63) dX8_ask_51 rfl (by decide) (fun hc => absurd hc (by decide)) (fun _ => ?_)
          refine aw_aload_n (npc := 55) rfl dX8_ask_54 rfl ?_
          refine aw_get (npc := 58) dX8_ask_55 rfl kf_X8_70 F.1 rfl ?_
          refine aw_iload_n (npc := 59) rfl dX8_ask_58 rfl ?_
          refine aw_iald (npc := 60) (x := (a 88) sn) (j := sn) dX8_ask_59 rfl F.2.2.2.2.2.2.2.2.2.2.2.2.2.2.2.2.2.2.2.1 (am_ix_nI (by omega)) (tl_at (by omega)) ?_
          refine aw_goto (npc := 65) dX8_ask_60 (by decide) ?_
          refine aw_iret rfl dX8_ask_65 ?_
          exact (show akM (a 86) (a 87) (a 88) (nI sn) k = ((a 88) sn) by simp [akM, cI, hw1, hw2, hu3, fsn, eth]) ▸ hq
        · refine aw_re (S' := [.int (if undr ((a 87) sn) k then 1 else 0)]) rfl ?_
          refine aw_top (y := 0) (if_neg hu3) ?_
          refine aw_if_eq (npc := 54) (tgt := 63) dX8_ask_51 rfl (by decide) (fun _ => ?_) (fun hc => absurd (by decide) hc)
          refine aw_ldc (npc := 65) kc_X8_134 dX8_ask_63 rfl ?_
          refine aw_iret rfl dX8_ask_65 ?_
          exact (show akM (a 86) (a 87) (a 88) (nI sn) k = (-1000000012) by simp [akM, cI, hw1, hw2, hu3, fsn, eth]) ▸ hq
      · refine aw_top (y := 2) eth ?_
        refine aw_if_ne (npc := 28) (tgt := 31) dX8_ask_25 rfl (by decide) (fun _ => ?_) (fun hc => absurd hc (by decide))
        refine aw_aload_n (npc := 32) rfl dX8_ask_31 rfl ?_
        refine aw_get (npc := 35) dX8_ask_32 rfl kf_X8_64 F.1 rfl ?_
        refine aw_iload_n (npc := 36) rfl dX8_ask_35 rfl ?_
        refine aw_iald (npc := 37) (x := (a 86) sn) (j := sn) dX8_ask_36 rfl F.2.2.2.2.2.2.2.2.2.2.2.2.2.2.2.2.2.1 (am_ix_nI (by omega)) (tl_at (by omega)) ?_
        refine aw_top (y := 2) eth ?_
        refine aw_iconst (npc := 38) (v := 1) (by decide) dX8_ask_37 rfl ?_
        refine aw_icmp_ne (npc := 41) (tgt := 63) dX8_ask_38 rfl (by decide) (fun _ => ?_) (fun hc => absurd hc (by decide))
        refine aw_ldc (npc := 65) kc_X8_134 dX8_ask_63 rfl ?_
        refine aw_iret rfl dX8_ask_65 ?_
        exact (show akM (a 86) (a 87) (a 88) (nI sn) k = (-1000000012) by simp [akM, cI, hw1, hw2, fsn, eth]) ▸ hq
      · refine aw_top (y := 3) eth ?_
        refine aw_if_ne (npc := 28) (tgt := 31) dX8_ask_25 rfl (by decide) (fun _ => ?_) (fun hc => absurd hc (by decide))
        refine aw_aload_n (npc := 32) rfl dX8_ask_31 rfl ?_
        refine aw_get (npc := 35) dX8_ask_32 rfl kf_X8_64 F.1 rfl ?_
        refine aw_iload_n (npc := 36) rfl dX8_ask_35 rfl ?_
        refine aw_iald (npc := 37) (x := (a 86) sn) (j := sn) dX8_ask_36 rfl F.2.2.2.2.2.2.2.2.2.2.2.2.2.2.2.2.2.1 (am_ix_nI (by omega)) (tl_at (by omega)) ?_
        refine aw_top (y := 3) eth ?_
        refine aw_iconst (npc := 38) (v := 1) (by decide) dX8_ask_37 rfl ?_
        refine aw_icmp_ne (npc := 41) (tgt := 63) dX8_ask_38 rfl (by decide) (fun _ => ?_) (fun hc => absurd hc (by decide))
        refine aw_ldc (npc := 65) kc_X8_134 dX8_ask_63 rfl ?_
        refine aw_iret rfl dX8_ask_65 ?_
        exact (show akM (a 86) (a 87) (a 88) (nI sn) k = (-1000000012) by simp [akM, cI, hw1, hw2, fsn, eth]) ▸ hq
    · refine aw_re (S' := [.int 0]) rfl ?_
      refine aw_if_ne (npc := 16) (tgt := 19) dX8_ask_13 rfl (by decide) (fun hc => absurd (by decide) hc) (fun _ => ?_)
      refine aw_ldc (npc := 18) kc_X8_91 dX8_ask_16 rfl ?_
      refine aw_iret rfl dX8_ask_18 ?_
      exact (show akM (a 86) (a 87) (a 88) (nI sn) k = (-1000000001) by simp [akM, cI, hw1, hw2, fsn]) ▸ hq
  · refine aw_re (S' := [.int 0]) rfl ?_
    refine aw_if_eq (npc := 7) (tgt := 16) dX8_ask_4 rfl (by decide) (fun _ => ?_) (fun hc => absurd (by decide) hc)
    refine aw_ldc (npc := 18) kc_X8_91 dX8_ask_16 rfl ?_
    refine aw_iret rfl dX8_ask_18 ?_
    exact (show akM (a 86) (a 87) (a 88) s k = (-1000000001) by simp [akM, cI, hw1]) ▸ hq
set_option maxHeartbeats 4000000 in
set_option maxRecDepth 100000 in
theorem C_item {X : List Int32} {d rc rs n : Nat} {Q : am_Q} {h : am_H} {N : Nat → Int32} {tx : List Value} {lk mv : Nat → Int32} {ik wc : Int32} {fr c : Nat} {s : Int32} {p : Int32} {th kd pr nu ss zs hc : Nat → Int32} (O : OB ik wc h) (Sl : SL th kd pr nu ss zs hc h) (hI : SI th kd zs) (hq : Q (some (.int (itV th zs hc s p))) n h) : AW X mX7_item (d + 12) rc rs 0 [some (.ref 0), some (.int s), some (.int p), none] [] n h Q := by
  refine aw_iload_n (npc := 1) rfl dX7_item_0 rfl ?_
  refine aw_callS (npc := 4) (N := mX7_isSlot) (mc := 0) (ms := 0) (A := [.int s]) (S := []) (L0 := [some (.int s)]) dX7_item_1 rfl km_X7_isSlot kk_X7_299 rfl ⟨rfl, by decide⟩ rfl (Nat.le_of_ble_eq_true rfl) (Nat.zero_add _) (Nat.zero_add _) rfl ?_
  refine c_X7_isSlot (fun hw1 => ?_) (fun hw1 => ?_)
  · obtain ⟨sn, hsn, esn⟩ := wi_nI (H := 4) (by decide) (by decide) hw1
    subst esn
    have fsn : fN (nI sn) = sn := fN_nI (by omega)
    obtain ⟨hth, hkd, z9, hz24, ez9⟩ := hI sn (by omega)
    refine aw_re (S' := [.int 1]) rfl ?_
    refine aw_if_ne (npc := 7) (tgt := 10) dX7_item_4 rfl (by decide) (fun _ => ?_) (fun hc => absurd hc (by decide))
    refine aw_aload_n (npc := 11) rfl dX7_item_10 rfl ?_
    refine aw_get (npc := 14) dX7_item_11 rfl kf_X7_53 O.1 rfl ?_
    refine aw_iload_n (npc := 15) rfl dX7_item_14 rfl ?_
    refine aw_aald (npc := 16) (j := sn) dX7_item_15 rfl (by decide) O.2.2 (am_ix_nI (by omega)) (sl_at (by omega)) ?_
    refine aw_astore_n (npc := 17) (L' := [some (.ref 0), some (.int (nI sn)), some (.int p), some (.ref (54 + 3 * sn))]) dX7_item_16 rfl (by decide) rfl rfl ?_
    refine aw_aload_n (npc := 18) rfl dX7_item_17 rfl ?_
    refine aw_get (npc := 21) dX7_item_18 rfl kf_X7_302 (Sl sn (by omega)).1 rfl ?_
    rcases wi_c0_3 hth with eth | eth | eth | eth
    · refine aw_top (y := 0) eth ?_
      refine aw_if_ne (npc := 24) (tgt := 27) dX7_item_21 rfl (by decide) (fun hc => absurd (by decide) hc) (fun _ => ?_)
      refine aw_ldc (npc := 26) kc_X7_210 dX7_item_24 rfl ?_
      refine aw_iret rfl dX7_item_26 ?_
      exact (show itV th zs hc (nI sn) p = (-1000000011) by simp [itV, cI, hw1, fsn, eth]) ▸ hq
    · refine aw_top (y := 1) eth ?_
      refine aw_if_ne (npc := 24) (tgt := 27) dX7_item_21 rfl (by decide) (fun _ => ?_) (fun hc => absurd hc (by decide))
      refine aw_aload_n (npc := 28) rfl dX7_item_27 rfl ?_
      refine aw_get (npc := 31) dX7_item_28 rfl kf_X7_302 (Sl sn (by omega)).1 rfl ?_
      refine aw_top (y := 1) eth ?_
      refine aw_iconst (npc := 32) (v := 2) (by decide) dX7_item_31 rfl ?_
      refine aw_icmp_eq (npc := 35) (tgt := 38) dX7_item_32 rfl (by decide) (fun hc => absurd hc (by decide)) (fun _ => ?_)
      refine aw_ldc (npc := 37) kc_X7_123 dX7_item_35 rfl ?_
      refine aw_iret rfl dX7_item_37 ?_
      exact (show itV th zs hc (nI sn) p = (-1000000012) by simp [itV, cI, hw1, fsn, eth]) ▸ hq
    · refine aw_top (y := 2) eth ?_
      refine aw_if_ne (npc := 24) (tgt := 27) dX7_item_21 rfl (by decide) (fun _ => ?_) (fun hc => absurd hc (by decide))
      refine aw_aload_n (npc := 28) rfl dX7_item_27 rfl ?_
      refine aw_get (npc := 31) dX7_item_28 rfl kf_X7_302 (Sl sn (by omega)).1 rfl ?_
      refine aw_top (y := 2) eth ?_
      refine aw_iconst (npc := 32) (v := 2) (by decide) dX7_item_31 rfl ?_
      refine aw_icmp_eq (npc := 35) (tgt := 38) dX7_item_32 rfl (by decide) (fun _ => ?_) (fun hc => absurd (by decide) hc)
      refine aw_aload_n (npc := 39) rfl dX7_item_38 rfl ?_
      refine aw_get (npc := 42) dX7_item_39 rfl kf_X7_311 (Sl sn (by omega)).1 rfl ?_
      refine aw_iload_n (npc := 43) rfl dX7_item_42 rfl ?_
      refine aw_callV (npc := 46) (N := mX2_isPlace) (b := 55 + 3 * sn) (mc := 0) (ms := 0) (A := [.int p]) (S := []) (L0 := [some (.ref (55 + 3 * sn)), some (.int p)]) dX7_item_43 rfl km_X2_isPlace kk_X7_275 (Sl sn (by omega)).2.1 ⟨by decide, rfl⟩ rfl ⟨rfl, by decide⟩ rfl (Nat.le_of_ble_eq_true rfl) (Nat.zero_add _) (Nat.zero_add _) rfl ?_
      refine aw_iload_n (npc := 1) rfl dX2_isPlace_0 rfl ?_
      refine aw_iconst (npc := 2) (v := 0) (by decide) dX2_isPlace_1 rfl ?_
      refine aw_aload_n (npc := 3) rfl dX2_isPlace_2 rfl ?_
      refine aw_get (npc := 6) dX2_isPlace_3 rfl kf_X2_15 (Sl sn (by omega)).2.1 rfl ?_
      refine aw_iconst (npc := 7) (v := 1) (by decide) dX2_isPlace_6 rfl ?_
      refine aw_isub (npc := 8) dX2_isPlace_7 rfl ?_
      refine aw_callSN (npc := 11) (N := mX7_within) (mc := 0) (ms := 0) (A := [.int p, .int 0, .int ((zs sn) - 1)]) (S := []) (L0 := [some (.int p), some (.int 0), some (.int ((zs sn) - 1))]) dX2_isPlace_8 rfl km_X7_within kk_X2_34 rfl ⟨rfl, by decide⟩ rfl (Nat.le_of_ble_eq_true rfl) (Nat.zero_add _) (Nat.zero_add _) rfl ?_
      refine c_X7_within (fun hw2 => ?_) (fun hw2 => ?_)
      · obtain ⟨pn, hpn, epn⟩ := wi_idx ez9 (by omega) hw2
        subst epn
        have fpn : fN (nI pn) = pn := fN_nI (by omega)
        refine aw_re (S' := [.int 1]) rfl ?_
        refine aw_zret rfl rfl dX2_isPlace_11 ?_
        refine aw_re (S' := [.int 1]) rfl ?_
        refine aw_if_ne (npc := 49) (tgt := 53) dX7_item_46 rfl (by decide) (fun _ => ?_) (fun hc => absurd hc (by decide))
        refine aw_aload_n (npc := 54) rfl dX7_item_53 rfl ?_
        refine aw_get (npc := 57) dX7_item_54 rfl kf_X7_311 (Sl sn (by omega)).1 rfl ?_
        refine aw_iload_n (npc := 58) rfl dX7_item_57 rfl ?_
        refine aw_callV (npc := 61) (N := mX2_isNumber) (b := 55 + 3 * sn) (mc := 0) (ms := 0) (A := [.int (nI pn)]) (S := []) (L0 := [some (.ref (55 + 3 * sn)), some (.int (nI pn))]) dX7_item_58 rfl km_X2_isNumber kk_X7_215 (Sl sn (by omega)).2.1 ⟨by decide, rfl⟩ rfl ⟨rfl, by decide⟩ rfl (Nat.le_of_ble_eq_true rfl) (Nat.zero_add _) (Nat.zero_add _) rfl ?_
        refine aw_aload_n (npc := 1) rfl dX2_isNumber_0 rfl ?_
        refine aw_iload_n (npc := 2) rfl dX2_isNumber_1 rfl ?_
        refine aw_callV (npc := 5) (N := mX2_isPlace) (b := 55 + 3 * sn) (mc := 0) (ms := 0) (A := [.int (nI pn)]) (S := []) (L0 := [some (.ref (55 + 3 * sn)), some (.int (nI pn))]) dX2_isNumber_2 rfl km_X2_isPlace kk_X2_38 (Sl sn (by omega)).2.1 ⟨by decide, rfl⟩ rfl ⟨rfl, by decide⟩ rfl (Nat.le_of_ble_eq_true rfl) (Nat.zero_add _) (Nat.zero_add _) rfl ?_
        refine aw_iload_n (npc := 1) rfl dX2_isPlace_0 rfl ?_
        refine aw_iconst (npc := 2) (v := 0) (by decide) dX2_isPlace_1 rfl ?_
        refine aw_aload_n (npc := 3) rfl dX2_isPlace_2 rfl ?_
        refine aw_get (npc := 6) dX2_isPlace_3 rfl kf_X2_15 (Sl sn (by omega)).2.1 rfl ?_
        refine aw_iconst (npc := 7) (v := 1) (by decide) dX2_isPlace_6 rfl ?_
        refine aw_isub (npc := 8) dX2_isPlace_7 rfl ?_
        refine aw_callSN (npc := 11) (N := mX7_within) (mc := 0) (ms := 0) (A := [.int (nI pn), .int 0, .int ((zs sn) - 1)]) (S := []) (L0 := [some (.int (nI pn)), some (.int 0), some (.int ((zs sn) - 1))]) dX2_isPlace_8 rfl km_X7_within kk_X2_34 rfl ⟨rfl, by decide⟩ rfl (Nat.le_of_ble_eq_true rfl) (Nat.zero_add _) (Nat.zero_add _) rfl ?_
        refine c_X7_within (fun _ => ?_) (fun hw3 => absurd hw2 hw3)
        refine aw_re (S' := [.int 1]) rfl ?_
        refine aw_zret rfl rfl dX2_isPlace_11 ?_
        refine aw_re (S' := [.int 1]) rfl ?_
        refine aw_if_eq (npc := 8) (tgt := 23) dX2_isNumber_5 rfl (by decide) (fun hc => absurd hc (by decide)) (fun _ => ?_)
        refine aw_aload_n (npc := 9) rfl dX2_isNumber_8 rfl ?_
        refine aw_get (npc := 12) dX2_isNumber_9 rfl kf_X2_18 (Sl sn (by omega)).2.1 rfl ?_
        refine aw_iload_n (npc := 13) rfl dX2_isNumber_12 rfl ?_
        refine aw_iald (npc := 14) (x := hc (24 * sn + pn)) (j := pn) dX2_isNumber_13 rfl (Sl sn (by omega)).2.2 (am_ix_nI (by omega)) (tl_at (by omega)) ?_
        refine aw_ldc (npc := 16) kc_X2_42 dX2_isNumber_14 rfl ?_
        refine aw_icmp_eq (npc := 19) (tgt := 23) dX2_isNumber_16 rfl (by decide) (fun hc4 => ?_) (fun hc4 => ?_)
        · refine aw_iconst (npc := 24) (v := 0) (by decide) dX2_isNumber_23 rfl ?_
          refine aw_zret rfl rfl dX2_isNumber_24 ?_
          refine aw_re (S' := [.int 0]) rfl ?_
          refine aw_if_eq (npc := 64) (tgt := 76) dX7_item_61 rfl (by decide) (fun _ => ?_) (fun hc => absurd (by decide) hc)
          refine aw_ldc (npc := 78) kc_X7_123 dX7_item_76 rfl ?_
          refine aw_iret rfl dX7_item_78 ?_
          exact (show itV th zs hc (nI sn) (nI pn) = (-1000000012) by simp [itV, cI, hw1, hw2, hc4, fsn, fpn, eth]) ▸ hq
        · refine aw_iconst (npc := 20) (v := 1) (by decide) dX2_isNumber_19 rfl ?_
          refine aw_goto (npc := 24) dX2_isNumber_20 (by decide) ?_
          refine aw_zret rfl rfl dX2_isNumber_24 ?_
          refine aw_re (S' := [.int 1]) rfl ?_
          refine aw_if_eq (npc := 64) (tgt := 76) dX7_item_61 rfl (by decide) (fun hc => absurd hc (by decide)) (fun _ => ?_)
          refine aw_aload_n (npc := 65) rfl dX7_item_64 rfl ?_
          refine aw_get (npc := 68) dX7_item_65 rfl kf_X7_311 (Sl sn (by omega)).1 rfl ?_
          refine aw_get (npc := 71) dX7_item_68 rfl kf_X7_218 (Sl sn (by omega)).2.1 rfl ?_
          refine aw_iload_n (npc := 72) rfl dX7_item_71 rfl ?_
          refine aw_iald (npc := 73) (x := hc (24 * sn + pn)) (j := pn) dX7_item_72 rfl (Sl sn (by omega)).2.2 (am_ix_nI (by omega)) (tl_at (by omega)) ?_
          refine aw_goto (npc := 78) dX7_item_73 (by decide) ?_
          refine aw_iret rfl dX7_item_78 ?_
          exact (show itV th zs hc (nI sn) (nI pn) = (hc (24 * sn + pn)) by simp [itV, cI, hw1, hw2, hc4, fsn, fpn, eth]) ▸ hq
      · refine aw_re (S' := [.int 0]) rfl ?_
        refine aw_zret rfl rfl dX2_isPlace_11 ?_
        refine aw_re (S' := [.int 0]) rfl ?_
        refine aw_if_ne (npc := 49) (tgt := 53) dX7_item_46 rfl (by decide) (fun hc => absurd (by decide) hc) (fun _ => ?_)
        refine aw_ldcw (npc := 52) kc_X7_278 dX7_item_49 rfl ?_
        refine aw_iret rfl dX7_item_52 ?_
        exact (show itV th zs hc (nI sn) p = (-1000000013) by simp [itV, cI, hw1, hw2, fsn, eth]) ▸ hq
    · refine aw_top (y := 3) eth ?_
      refine aw_if_ne (npc := 24) (tgt := 27) dX7_item_21 rfl (by decide) (fun _ => ?_) (fun hc => absurd hc (by decide))
      refine aw_aload_n (npc := 28) rfl dX7_item_27 rfl ?_
      refine aw_get (npc := 31) dX7_item_28 rfl kf_X7_302 (Sl sn (by omega)).1 rfl ?_
      refine aw_top (y := 3) eth ?_
      refine aw_iconst (npc := 32) (v := 2) (by decide) dX7_item_31 rfl ?_
      refine aw_icmp_eq (npc := 35) (tgt := 38) dX7_item_32 rfl (by decide) (fun hc => absurd hc (by decide)) (fun _ => ?_)
      refine aw_ldc (npc := 37) kc_X7_123 dX7_item_35 rfl ?_
      refine aw_iret rfl dX7_item_37 ?_
      exact (show itV th zs hc (nI sn) p = (-1000000012) by simp [itV, cI, hw1, fsn, eth]) ▸ hq
  · refine aw_re (S' := [.int 0]) rfl ?_
    refine aw_if_ne (npc := 7) (tgt := 10) dX7_item_4 rfl (by decide) (fun hc => absurd (by decide) hc) (fun _ => ?_)
    refine aw_ldc (npc := 9) kc_X7_78 dX7_item_7 rfl ?_
    refine aw_iret rfl dX7_item_9 ?_
    exact (show itV th zs hc s p = (-1000000001) by simp [itV, cI, hw1]) ▸ hq
set_option maxHeartbeats 4000000 in
set_option maxRecDepth 100000 in
theorem M_item {X : List Int32} {d rc rs n : Nat} {Q : am_Q} {h : am_H} {o N : Nat → Int32} {a : Nat → Nat → Int32} {fr c : Nat} {s : Int32} {p : Int32} (F : MR o N a h) (hI : SMI (a 86) (a 87)) (hq : Q (some (.int (itV (a 86) (a 87) (a 89) s p))) n h) : AW X mX8_item (d + 12) rc rs 0 [some (.ref 69), some (.int s), some (.int p), none] [] n h Q := by
  refine aw_iload_n (npc := 1) rfl dX8_item_0 rfl ?_
  refine aw_callS (npc := 4) (N := mX8_isSlot) (mc := 0) (ms := 0) (A := [.int s]) (S := []) (L0 := [some (.int s)]) dX8_item_1 rfl km_X8_isSlot kk_X8_262 rfl ⟨rfl, by decide⟩ rfl (Nat.le_of_ble_eq_true rfl) (Nat.zero_add _) (Nat.zero_add _) rfl ?_
  refine c_X8_isSlot (fun hw1 => ?_) (fun hw1 => ?_)
  · obtain ⟨sn, hsn, esn⟩ := wi_nI (H := 4) (by decide) (by decide) hw1
    subst esn
    have fsn : fN (nI sn) = sn := fN_nI (by omega)
    obtain ⟨hth, hkd, hzz⟩ := hI sn (by omega)
    refine aw_re (S' := [.int 1]) rfl ?_
    refine aw_if_ne (npc := 7) (tgt := 10) dX8_item_4 rfl (by decide) (fun _ => ?_) (fun hc => absurd hc (by decide))
    refine aw_aload_n (npc := 11) rfl dX8_item_10 rfl ?_
    refine aw_get (npc := 14) dX8_item_11 rfl kf_X8_64 F.1 rfl ?_
    refine aw_iload_n (npc := 15) rfl dX8_item_14 rfl ?_
    refine aw_iald (npc := 16) (x := (a 86) sn) (j := sn) dX8_item_15 rfl F.2.2.2.2.2.2.2.2.2.2.2.2.2.2.2.2.2.1 (am_ix_nI (by omega)) (tl_at (by omega)) ?_
    rcases wi_c0_3 hth with eth | eth | eth | eth
    · refine aw_top (y := 0) eth ?_
      refine aw_if_ne (npc := 19) (tgt := 22) dX8_item_16 rfl (by decide) (fun hc => absurd (by decide) hc) (fun _ => ?_)
      refine aw_ldc (npc := 21) kc_X8_187 dX8_item_19 rfl ?_
      refine aw_iret rfl dX8_item_21 ?_
      exact (show itV (a 86) (a 87) (a 89) (nI sn) p = (-1000000011) by simp [itV, cI, hw1, fsn, eth]) ▸ hq
    · refine aw_top (y := 1) eth ?_
      refine aw_if_ne (npc := 19) (tgt := 22) dX8_item_16 rfl (by decide) (fun _ => ?_) (fun hc => absurd hc (by decide))
      refine aw_aload_n (npc := 23) rfl dX8_item_22 rfl ?_
      refine aw_get (npc := 26) dX8_item_23 rfl kf_X8_64 F.1 rfl ?_
      refine aw_iload_n (npc := 27) rfl dX8_item_26 rfl ?_
      refine aw_iald (npc := 28) (x := (a 86) sn) (j := sn) dX8_item_27 rfl F.2.2.2.2.2.2.2.2.2.2.2.2.2.2.2.2.2.1 (am_ix_nI (by omega)) (tl_at (by omega)) ?_
      refine aw_top (y := 1) eth ?_
      refine aw_iconst (npc := 29) (v := 2) (by decide) dX8_item_28 rfl ?_
      refine aw_icmp_eq (npc := 32) (tgt := 35) dX8_item_29 rfl (by decide) (fun hc => absurd hc (by decide)) (fun _ => ?_)
      refine aw_ldc (npc := 34) kc_X8_134 dX8_item_32 rfl ?_
      refine aw_iret rfl dX8_item_34 ?_
      exact (show itV (a 86) (a 87) (a 89) (nI sn) p = (-1000000012) by simp [itV, cI, hw1, fsn, eth]) ▸ hq
    · refine aw_top (y := 2) eth ?_
      refine aw_if_ne (npc := 19) (tgt := 22) dX8_item_16 rfl (by decide) (fun _ => ?_) (fun hc => absurd hc (by decide))
      refine aw_aload_n (npc := 23) rfl dX8_item_22 rfl ?_
      refine aw_get (npc := 26) dX8_item_23 rfl kf_X8_64 F.1 rfl ?_
      refine aw_iload_n (npc := 27) rfl dX8_item_26 rfl ?_
      refine aw_iald (npc := 28) (x := (a 86) sn) (j := sn) dX8_item_27 rfl F.2.2.2.2.2.2.2.2.2.2.2.2.2.2.2.2.2.1 (am_ix_nI (by omega)) (tl_at (by omega)) ?_
      refine aw_top (y := 2) eth ?_
      refine aw_iconst (npc := 29) (v := 2) (by decide) dX8_item_28 rfl ?_
      refine aw_icmp_eq (npc := 32) (tgt := 35) dX8_item_29 rfl (by decide) (fun _ => ?_) (fun hc => absurd (by decide) hc)
      obtain ⟨z9, hz24, ez9⟩ := hzz eth
      refine aw_iload_n (npc := 36) rfl dX8_item_35 rfl ?_
      refine aw_iconst (npc := 37) (v := 0) (by decide) dX8_item_36 rfl ?_
      refine aw_aload_n (npc := 38) rfl dX8_item_37 rfl ?_
      refine aw_get (npc := 41) dX8_item_38 rfl kf_X8_67 F.1 rfl ?_
      refine aw_iload_n (npc := 42) rfl dX8_item_41 rfl ?_
      refine aw_iald (npc := 43) (x := (a 87) sn) (j := sn) dX8_item_42 rfl F.2.2.2.2.2.2.2.2.2.2.2.2.2.2.2.2.2.2.1 (am_ix_nI (by omega)) (tl_at (by omega)) ?_
      refine aw_iconst (npc := 44) (v := 1) (by decide) dX8_item_43 rfl ?_
      refine aw_isub (npc := 45) dX8_item_44 rfl ?_
      refine aw_callS (npc := 48) (N := mX8_in) (mc := 0) (ms := 0) (A := [.int p, .int 0, .int (((a 87) sn) - 1)]) (S := []) (L0 := [some (.int p), some (.int 0), some (.int (((a 87) sn) - 1))]) dX8_item_45 rfl km_X8_in kk_X8_83 rfl ⟨rfl, by decide⟩ rfl (Nat.le_of_ble_eq_true rfl) (Nat.zero_add _) (Nat.zero_add _) rfl ?_
      refine c_X8_in (fun hw2 => ?_) (fun hw2 => ?_)
      · obtain ⟨pn, hpn, epn⟩ := wi_idx ez9 (by omega) hw2
        subst epn
        have fpn : fN (nI pn) = pn := fN_nI (by omega)
        refine aw_re (S' := [.int 1]) rfl ?_
        refine aw_if_ne (npc := 51) (tgt := 55) dX8_item_48 rfl (by decide) (fun _ => ?_) (fun hc => absurd hc (by decide))
        refine aw_aload_n (npc := 56) rfl dX8_item_55 rfl ?_
        refine aw_get (npc := 59) dX8_item_56 rfl kf_X8_73 F.1 rfl ?_
        refine aw_bipush (npc := 61) (v := 24) (by decide) dX8_item_59 rfl ?_
        refine aw_iload_n (npc := 62) rfl dX8_item_61 rfl ?_
        refine aw_imulV (npc := 63) (v := nI (24 * sn)) dX8_item_62 rfl (pk_mul 24 _) ?_
        refine aw_iload_n (npc := 64) rfl dX8_item_63 rfl ?_
        refine aw_iaddV (npc := 65) (v := nI ((24 * sn) + pn)) dX8_item_64 rfl (nI_add _ _) ?_
        refine aw_iald (npc := 66) (x := (a 89) ((24 * sn) + pn)) (j := ((24 * sn) + pn)) dX8_item_65 rfl F.2.2.2.2.2.2.2.2.2.2.2.2.2.2.2.2.2.2.2.2.1 (am_ix_nI (by omega)) (tl_at (by omega)) ?_
        refine aw_istore_n (npc := 67) (L' := [some (.ref 69), some (.int (nI sn)), some (.int (nI pn)), some (.int ((a 89) ((24 * sn) + pn)))]) dX8_item_66 rfl (by decide) rfl rfl ?_
        refine aw_iload_n (npc := 68) rfl dX8_item_67 rfl ?_
        refine aw_ldc (npc := 70) kc_X8_82 dX8_item_68 rfl ?_
        refine aw_icmp_ne (npc := 73) (tgt := 78) dX8_item_70 rfl (by decide) (fun hc3 => ?_) (fun hc3 => ?_)
        · refine aw_iload_n (npc := 79) rfl dX8_item_78 rfl ?_
          refine aw_iret rfl dX8_item_79 ?_
          exact (show itV (a 86) (a 87) (a 89) (nI sn) (nI pn) = ((a 89) ((24 * sn) + pn)) by simp [itV, cI, hw1, hw2, hc3, fsn, fpn, eth]) ▸ hq
        · refine aw_ldc (npc := 75) kc_X8_134 dX8_item_73 rfl ?_
          refine aw_goto (npc := 79) dX8_item_75 (by decide) ?_
          refine aw_iret rfl dX8_item_79 ?_
          exact (show itV (a 86) (a 87) (a 89) (nI sn) (nI pn) = (-1000000012) by simp [itV, cI, hw1, hw2, hc3, fsn, fpn, eth]) ▸ hq
      · refine aw_re (S' := [.int 0]) rfl ?_
        refine aw_if_ne (npc := 51) (tgt := 55) dX8_item_48 rfl (by decide) (fun hc => absurd (by decide) hc) (fun _ => ?_)
        refine aw_ldcw (npc := 54) kc_X8_259 dX8_item_51 rfl ?_
        refine aw_iret rfl dX8_item_54 ?_
        exact (show itV (a 86) (a 87) (a 89) (nI sn) p = (-1000000013) by simp [itV, cI, hw1, hw2, fsn, eth]) ▸ hq
    · refine aw_top (y := 3) eth ?_
      refine aw_if_ne (npc := 19) (tgt := 22) dX8_item_16 rfl (by decide) (fun _ => ?_) (fun hc => absurd hc (by decide))
      refine aw_aload_n (npc := 23) rfl dX8_item_22 rfl ?_
      refine aw_get (npc := 26) dX8_item_23 rfl kf_X8_64 F.1 rfl ?_
      refine aw_iload_n (npc := 27) rfl dX8_item_26 rfl ?_
      refine aw_iald (npc := 28) (x := (a 86) sn) (j := sn) dX8_item_27 rfl F.2.2.2.2.2.2.2.2.2.2.2.2.2.2.2.2.2.1 (am_ix_nI (by omega)) (tl_at (by omega)) ?_
      refine aw_top (y := 3) eth ?_
      refine aw_iconst (npc := 29) (v := 2) (by decide) dX8_item_28 rfl ?_
      refine aw_icmp_eq (npc := 32) (tgt := 35) dX8_item_29 rfl (by decide) (fun hc => absurd hc (by decide)) (fun _ => ?_)
      refine aw_ldc (npc := 34) kc_X8_134 dX8_item_32 rfl ?_
      refine aw_iret rfl dX8_item_34 ?_
      exact (show itV (a 86) (a 87) (a 89) (nI sn) p = (-1000000012) by simp [itV, cI, hw1, fsn, eth]) ▸ hq
  · refine aw_re (S' := [.int 0]) rfl ?_
    refine aw_if_ne (npc := 7) (tgt := 10) dX8_item_4 rfl (by decide) (fun hc => absurd (by decide) hc) (fun _ => ?_)
    refine aw_ldc (npc := 9) kc_X8_91 dX8_item_7 rfl ?_
    refine aw_iret rfl dX8_item_9 ?_
    exact (show itV (a 86) (a 87) (a 89) s p = (-1000000001) by simp [itV, cI, hw1]) ▸ hq
set_option maxHeartbeats 4000000 in
set_option maxRecDepth 100000 in
theorem C_rest {X : List Int32} {d rc rs n : Nat} {Q : am_Q} {h : am_H} {N : Nat → Int32} {tx : List Value} {lk mv : Nat → Int32} {ik wc : Int32} {fr c : Nat} {s : Int32} {k : Int32} {th kd pr nu ss zs hc : Nat → Int32} (O : OB ik wc h) (Sl : SL th kd pr nu ss zs hc h) (hI : SI th kd zs) (hq : Q (some (.int (reV th nu s k))) n h) : AW X mX7_rest (d + 12) rc rs 0 [some (.ref 0), some (.int s), some (.int k), none] [] n h Q := by
  refine aw_iload_n (npc := 1) rfl dX7_rest_0 rfl ?_
  refine aw_callS (npc := 4) (N := mX7_isSlot) (mc := 0) (ms := 0) (A := [.int s]) (S := []) (L0 := [some (.int s)]) dX7_rest_1 rfl km_X7_isSlot kk_X7_299 rfl ⟨rfl, by decide⟩ rfl (Nat.le_of_ble_eq_true rfl) (Nat.zero_add _) (Nat.zero_add _) rfl ?_
  refine c_X7_isSlot (fun hw1 => ?_) (fun hw1 => ?_)
  · obtain ⟨sn, hsn, esn⟩ := wi_nI (H := 4) (by decide) (by decide) hw1
    subst esn
    have fsn : fN (nI sn) = sn := fN_nI (by omega)
    obtain ⟨hth, hkd, z9, hz24, ez9⟩ := hI sn (by omega)
    refine aw_re (S' := [.int 1]) rfl ?_
    refine aw_if_ne (npc := 7) (tgt := 10) dX7_rest_4 rfl (by decide) (fun _ => ?_) (fun hc => absurd hc (by decide))
    refine aw_aload_n (npc := 11) rfl dX7_rest_10 rfl ?_
    refine aw_get (npc := 14) dX7_rest_11 rfl kf_X7_53 O.1 rfl ?_
    refine aw_iload_n (npc := 15) rfl dX7_rest_14 rfl ?_
    refine aw_aald (npc := 16) (j := sn) dX7_rest_15 rfl (by decide) O.2.2 (am_ix_nI (by omega)) (sl_at (by omega)) ?_
    refine aw_astore_n (npc := 17) (L' := [some (.ref 0), some (.int (nI sn)), some (.int k), some (.ref (54 + 3 * sn))]) dX7_rest_16 rfl (by decide) rfl rfl ?_
    refine aw_aload_n (npc := 18) rfl dX7_rest_17 rfl ?_
    refine aw_get (npc := 21) dX7_rest_18 rfl kf_X7_302 (Sl sn (by omega)).1 rfl ?_
    rcases wi_c0_3 hth with eth | eth | eth | eth
    · refine aw_top (y := 0) eth ?_
      refine aw_if_ne (npc := 24) (tgt := 27) dX7_rest_21 rfl (by decide) (fun hc => absurd (by decide) hc) (fun _ => ?_)
      refine aw_ldc (npc := 26) kc_X7_210 dX7_rest_24 rfl ?_
      refine aw_iret rfl dX7_rest_26 ?_
      exact (show reV th nu (nI sn) k = (-1000000011) by simp [reV, cI, hw1, fsn, eth]) ▸ hq
    · refine aw_top (y := 1) eth ?_
      refine aw_if_ne (npc := 24) (tgt := 27) dX7_rest_21 rfl (by decide) (fun _ => ?_) (fun hc => absurd hc (by decide))
      refine aw_aload_n (npc := 28) rfl dX7_rest_27 rfl ?_
      refine aw_get (npc := 31) dX7_rest_28 rfl kf_X7_302 (Sl sn (by omega)).1 rfl ?_
      refine aw_top (y := 1) eth ?_
      refine aw_iconst (npc := 32) (v := 3) (by decide) dX7_rest_31 rfl ?_
      refine aw_icmp_eq (npc := 35) (tgt := 38) dX7_rest_32 rfl (by decide) (fun hc => absurd hc (by decide)) (fun _ => ?_)
      refine aw_ldc (npc := 37) kc_X7_123 dX7_rest_35 rfl ?_
      refine aw_iret rfl dX7_rest_37 ?_
      exact (show reV th nu (nI sn) k = (-1000000012) by simp [reV, cI, hw1, fsn, eth]) ▸ hq
    · refine aw_top (y := 2) eth ?_
      refine aw_if_ne (npc := 24) (tgt := 27) dX7_rest_21 rfl (by decide) (fun _ => ?_) (fun hc => absurd hc (by decide))
      refine aw_aload_n (npc := 28) rfl dX7_rest_27 rfl ?_
      refine aw_get (npc := 31) dX7_rest_28 rfl kf_X7_302 (Sl sn (by omega)).1 rfl ?_
      refine aw_top (y := 2) eth ?_
      refine aw_iconst (npc := 32) (v := 3) (by decide) dX7_rest_31 rfl ?_
      refine aw_icmp_eq (npc := 35) (tgt := 38) dX7_rest_32 rfl (by decide) (fun hc => absurd hc (by decide)) (fun _ => ?_)
      refine aw_ldc (npc := 37) kc_X7_123 dX7_rest_35 rfl ?_
      refine aw_iret rfl dX7_rest_37 ?_
      exact (show reV th nu (nI sn) k = (-1000000012) by simp [reV, cI, hw1, fsn, eth]) ▸ hq
    · refine aw_top (y := 3) eth ?_
      refine aw_if_ne (npc := 24) (tgt := 27) dX7_rest_21 rfl (by decide) (fun _ => ?_) (fun hc => absurd hc (by decide))
      refine aw_aload_n (npc := 28) rfl dX7_rest_27 rfl ?_
      refine aw_get (npc := 31) dX7_rest_28 rfl kf_X7_302 (Sl sn (by omega)).1 rfl ?_
      refine aw_top (y := 3) eth ?_
      refine aw_iconst (npc := 32) (v := 3) (by decide) dX7_rest_31 rfl ?_
      refine aw_icmp_eq (npc := 35) (tgt := 38) dX7_rest_32 rfl (by decide) (fun _ => ?_) (fun hc => absurd (by decide) hc)
      refine aw_iload_n (npc := 39) rfl dX7_rest_38 rfl ?_
      refine aw_if_ne (npc := 42) (tgt := 48) dX7_rest_39 rfl (by decide) (fun hc2 => ?_) (fun hc2 => ?_)
      · refine aw_aload_n (npc := 49) rfl dX7_rest_48 rfl ?_
        refine aw_get (npc := 52) dX7_rest_49 rfl kf_X7_318 (Sl sn (by omega)).1 rfl ?_
        refine aw_iload_n (npc := 53) rfl dX7_rest_52 rfl ?_
        refine aw_irem (npc := 54) hc2 dX7_rest_53 rfl ?_
        refine aw_iret rfl dX7_rest_54 ?_
        exact (show reV th nu (nI sn) k = ((nu sn) - (nu sn) / k * k) by simp [reV, cI, hw1, hc2, fsn, eth]) ▸ hq
      · refine aw_ldcw (npc := 45) kc_X7_321 dX7_rest_42 rfl ?_
        refine aw_goto (npc := 54) dX7_rest_45 (by decide) ?_
        refine aw_iret rfl dX7_rest_54 ?_
        exact (show reV th nu (nI sn) k = (-1000000002) by simp [reV, cI, hw1, hc2, fsn, eth]) ▸ hq
  · refine aw_re (S' := [.int 0]) rfl ?_
    refine aw_if_ne (npc := 7) (tgt := 10) dX7_rest_4 rfl (by decide) (fun hc => absurd (by decide) hc) (fun _ => ?_)
    refine aw_ldc (npc := 9) kc_X7_78 dX7_rest_7 rfl ?_
    refine aw_iret rfl dX7_rest_9 ?_
    exact (show reV th nu s k = (-1000000001) by simp [reV, cI, hw1]) ▸ hq
set_option maxHeartbeats 4000000 in
set_option maxRecDepth 100000 in
theorem M_rest {X : List Int32} {d rc rs n : Nat} {Q : am_Q} {h : am_H} {o N : Nat → Int32} {a : Nat → Nat → Int32} {fr c : Nat} {s : Int32} {k : Int32} (F : MR o N a h) (hI : SMI (a 86) (a 87)) (hq : Q (some (.int (reV (a 86) (a 87) s k))) n h) : AW X mX8_rest (d + 12) rc rs 0 [some (.ref 69), some (.int s), some (.int k)] [] n h Q := by
  refine aw_iload_n (npc := 1) rfl dX8_rest_0 rfl ?_
  refine aw_callS (npc := 4) (N := mX8_isSlot) (mc := 0) (ms := 0) (A := [.int s]) (S := []) (L0 := [some (.int s)]) dX8_rest_1 rfl km_X8_isSlot kk_X8_262 rfl ⟨rfl, by decide⟩ rfl (Nat.le_of_ble_eq_true rfl) (Nat.zero_add _) (Nat.zero_add _) rfl ?_
  refine c_X8_isSlot (fun hw1 => ?_) (fun hw1 => ?_)
  · obtain ⟨sn, hsn, esn⟩ := wi_nI (H := 4) (by decide) (by decide) hw1
    subst esn
    have fsn : fN (nI sn) = sn := fN_nI (by omega)
    obtain ⟨hth, hkd, hzz⟩ := hI sn (by omega)
    refine aw_re (S' := [.int 1]) rfl ?_
    refine aw_if_ne (npc := 7) (tgt := 10) dX8_rest_4 rfl (by decide) (fun _ => ?_) (fun hc => absurd hc (by decide))
    refine aw_aload_n (npc := 11) rfl dX8_rest_10 rfl ?_
    refine aw_get (npc := 14) dX8_rest_11 rfl kf_X8_64 F.1 rfl ?_
    refine aw_iload_n (npc := 15) rfl dX8_rest_14 rfl ?_
    refine aw_iald (npc := 16) (x := (a 86) sn) (j := sn) dX8_rest_15 rfl F.2.2.2.2.2.2.2.2.2.2.2.2.2.2.2.2.2.1 (am_ix_nI (by omega)) (tl_at (by omega)) ?_
    rcases wi_c0_3 hth with eth | eth | eth | eth
    · refine aw_top (y := 0) eth ?_
      refine aw_if_ne (npc := 19) (tgt := 22) dX8_rest_16 rfl (by decide) (fun hc => absurd (by decide) hc) (fun _ => ?_)
      refine aw_ldc (npc := 21) kc_X8_187 dX8_rest_19 rfl ?_
      refine aw_iret rfl dX8_rest_21 ?_
      exact (show reV (a 86) (a 87) (nI sn) k = (-1000000011) by simp [reV, cI, hw1, fsn, eth, rem_m1]) ▸ hq
    · refine aw_top (y := 1) eth ?_
      refine aw_if_ne (npc := 19) (tgt := 22) dX8_rest_16 rfl (by decide) (fun _ => ?_) (fun hc => absurd hc (by decide))
      refine aw_aload_n (npc := 23) rfl dX8_rest_22 rfl ?_
      refine aw_get (npc := 26) dX8_rest_23 rfl kf_X8_64 F.1 rfl ?_
      refine aw_iload_n (npc := 27) rfl dX8_rest_26 rfl ?_
      refine aw_iald (npc := 28) (x := (a 86) sn) (j := sn) dX8_rest_27 rfl F.2.2.2.2.2.2.2.2.2.2.2.2.2.2.2.2.2.1 (am_ix_nI (by omega)) (tl_at (by omega)) ?_
      refine aw_top (y := 1) eth ?_
      refine aw_iconst (npc := 29) (v := 3) (by decide) dX8_rest_28 rfl ?_
      refine aw_icmp_eq (npc := 32) (tgt := 35) dX8_rest_29 rfl (by decide) (fun hc => absurd hc (by decide)) (fun _ => ?_)
      refine aw_ldc (npc := 34) kc_X8_134 dX8_rest_32 rfl ?_
      refine aw_iret rfl dX8_rest_34 ?_
      exact (show reV (a 86) (a 87) (nI sn) k = (-1000000012) by simp [reV, cI, hw1, fsn, eth, rem_m1]) ▸ hq
    · refine aw_top (y := 2) eth ?_
      refine aw_if_ne (npc := 19) (tgt := 22) dX8_rest_16 rfl (by decide) (fun _ => ?_) (fun hc => absurd hc (by decide))
      refine aw_aload_n (npc := 23) rfl dX8_rest_22 rfl ?_
      refine aw_get (npc := 26) dX8_rest_23 rfl kf_X8_64 F.1 rfl ?_
      refine aw_iload_n (npc := 27) rfl dX8_rest_26 rfl ?_
      refine aw_iald (npc := 28) (x := (a 86) sn) (j := sn) dX8_rest_27 rfl F.2.2.2.2.2.2.2.2.2.2.2.2.2.2.2.2.2.1 (am_ix_nI (by omega)) (tl_at (by omega)) ?_
      refine aw_top (y := 2) eth ?_
      refine aw_iconst (npc := 29) (v := 3) (by decide) dX8_rest_28 rfl ?_
      refine aw_icmp_eq (npc := 32) (tgt := 35) dX8_rest_29 rfl (by decide) (fun hc => absurd hc (by decide)) (fun _ => ?_)
      refine aw_ldc (npc := 34) kc_X8_134 dX8_rest_32 rfl ?_
      refine aw_iret rfl dX8_rest_34 ?_
      exact (show reV (a 86) (a 87) (nI sn) k = (-1000000012) by simp [reV, cI, hw1, fsn, eth, rem_m1]) ▸ hq
    · refine aw_top (y := 3) eth ?_
      refine aw_if_ne (npc := 19) (tgt := 22) dX8_rest_16 rfl (by decide) (fun _ => ?_) (fun hc => absurd hc (by decide))
      refine aw_aload_n (npc := 23) rfl dX8_rest_22 rfl ?_
      refine aw_get (npc := 26) dX8_rest_23 rfl kf_X8_64 F.1 rfl ?_
      refine aw_iload_n (npc := 27) rfl dX8_rest_26 rfl ?_
      refine aw_iald (npc := 28) (x := (a 86) sn) (j := sn) dX8_rest_27 rfl F.2.2.2.2.2.2.2.2.2.2.2.2.2.2.2.2.2.1 (am_ix_nI (by omega)) (tl_at (by omega)) ?_
      refine aw_top (y := 3) eth ?_
      refine aw_iconst (npc := 29) (v := 3) (by decide) dX8_rest_28 rfl ?_
      refine aw_icmp_eq (npc := 32) (tgt := 35) dX8_rest_29 rfl (by decide) (fun _ => ?_) (fun hc => absurd (by decide) hc)
      refine aw_iload_n (npc := 36) rfl dX8_rest_35 rfl ?_
      refine aw_if_ne (npc := 39) (tgt := 45) dX8_rest_36 rfl (by decide) (fun hc2 => ?_) (fun hc2 => ?_)
      · refine aw_iload_n (npc := 46) rfl dX8_rest_45 rfl ?_
        refine aw_iconst (npc := 47) (v := -1) (by decide) dX8_rest_46 rfl ?_
        refine aw_icmp_ne (npc := 50) (tgt := 54) dX8_rest_47 rfl (by decide) (fun hc3 => ?_) (fun hc3 => ?_)
        · refine aw_aload_n (npc := 55) rfl dX8_rest_54 rfl ?_
          refine aw_get (npc := 58) dX8_rest_55 rfl kf_X8_67 F.1 rfl ?_
          refine aw_iload_n (npc := 59) rfl dX8_rest_58 rfl ?_
          refine aw_iald (npc := 60) (x := (a 87) sn) (j := sn) dX8_rest_59 rfl F.2.2.2.2.2.2.2.2.2.2.2.2.2.2.2.2.2.2.1 (am_ix_nI (by omega)) (tl_at (by omega)) ?_
          refine aw_iload_n (npc := 61) rfl dX8_rest_60 rfl ?_
          refine aw_irem (npc := 62) hc2 dX8_rest_61 rfl ?_
          refine aw_iret rfl dX8_rest_62 ?_
          exact (show reV (a 86) (a 87) (nI sn) k = (((a 87) sn) - ((a 87) sn) / k * k) by simp [reV, cI, hw1, hc2, hc3, fsn, eth, rem_m1]) ▸ hq
        · subst hc3
          refine aw_iconst (npc := 51) (v := 0) (by decide) dX8_rest_50 rfl ?_
          refine aw_goto (npc := 62) dX8_rest_51 (by decide) ?_
          refine aw_iret rfl dX8_rest_62 ?_
          exact (show reV (a 86) (a 87) (nI sn) (-1) = 0 by simp [reV, cI, hw1, hc2, fsn, eth, rem_m1]) ▸ hq
      · subst hc2
        refine aw_ldcw (npc := 42) kc_X8_265 dX8_rest_39 rfl ?_
        refine aw_goto (npc := 62) dX8_rest_42 (by decide) ?_
        refine aw_iret rfl dX8_rest_62 ?_
        exact (show reV (a 86) (a 87) (nI sn) 0 = (-1000000002) by simp [reV, cI, hw1, fsn, eth, rem_m1]) ▸ hq
  · refine aw_re (S' := [.int 0]) rfl ?_
    refine aw_if_ne (npc := 7) (tgt := 10) dX8_rest_4 rfl (by decide) (fun hc => absurd (by decide) hc) (fun _ => ?_)
    refine aw_ldc (npc := 9) kc_X8_91 dX8_rest_7 rfl ?_
    refine aw_iret rfl dX8_rest_9 ?_
    exact (show reV (a 86) (a 87) s k = (-1000000001) by simp [reV, cI, hw1, rem_m1]) ▸ hq
def cpC (cl : Nat → Int32) (s sp t dp m : Nat) : Nat → Int32 := fun i => if 24 * t + dp ≤ i ∧ i < 24 * t + dp + m then cl (24 * s + sp + (i - (24 * t + dp))) else cl i
def cpD (cl g : Nat → Int32) (t dp m : Nat) : Nat → Int32 := fun i => if 24 * t + dp ≤ i ∧ i < 24 * t + dp + m then g (i - (24 * t + dp)) else cl i
def cpS (hc cl : Nat → Int32) (s t : Nat) : Nat → Int32 := fun i => if 24 * s ≤ i ∧ i < 24 * s + 24 then cl (24 * t + (i - 24 * s)) else hc i
def cpT (hc cl : Nat → Int32) (s t m : Nat) : Nat → Int32 := fun i => if 24 * s ≤ i ∧ i < 24 * s + m then cl (24 * t + (i - 24 * s)) else hc i
theorem am_cpy_tl {a b sp dp m : Nat} {f g : Nat → Int32} (h : sp + m ≤ a) : am_cpy (tl a f) (tl b g) sp dp m = tl b (fun j => if dp ≤ j ∧ j < dp + m then f (sp + (j - dp)) else g j) := by
  unfold am_cpy
  rw [tl_len]
  refine List.map_congr_left (fun j hj => ?_)
  have hj := List.mem_range.mp hj
  by_cases q : dp ≤ j ∧ j < dp + m
  · rw [if_pos q, if_pos q, List.getD_eq_getElem?_getD, tl_at (by omega)]; rfl
  · rw [if_neg q, if_neg q, List.getD_eq_getElem?_getD, tl_at hj]; rfl
theorem cpC_l {cl : Nat → Int32} {s sp t dp m : Nat} (h : sp + m ≤ 24) : am_cpy (tl 24 (fun i => cl (24 * s + i))) (tl 24 (fun i => cl (24 * t + i))) sp dp m = tl 24 (fun i => cpC cl s sp t dp m (24 * t + i)) := by
  rw [am_cpy_tl h]
  refine tl_congr (fun i hi => ?_)
  unfold cpC
  by_cases q : dp ≤ i ∧ i < dp + m
  · rw [if_pos q, if_pos (by omega)]; exact congrArg cl (by omega)
  · rw [if_neg q, if_neg (by omega)]
theorem cpC_o {cl : Nat → Int32} {s sp t dp m u i : Nat} (h : dp + m ≤ 24) (hi : i < 24) (e : u ≠ t) : cpC cl s sp t dp m (24 * u + i) = cl (24 * u + i) := if_neg (by omega)
theorem cpS_l {hc cl : Nat → Int32} {s t : Nat} : am_cpy (tl 24 (fun i => cl (24 * t + i))) (tl 24 (fun i => hc (24 * s + i))) 0 0 24 = tl 24 (fun i => cpS hc cl s t (24 * s + i)) := by
  rw [am_cpy_tl (by omega)]
  refine tl_congr (fun i hi => ?_)
  unfold cpS
  rw [if_pos (by omega), if_pos (by omega)]
  exact congrArg cl (by omega)
theorem cpS_o {hc cl : Nat → Int32} {s t u i : Nat} (hi : i < 24) (e : u ≠ s) : cpS hc cl s t (24 * u + i) = hc (24 * u + i) := if_neg (by omega)
theorem cpD_0 {cl g : Nat → Int32} {t dp : Nat} : cpD cl g t dp 0 = cl := funext (fun i => if_neg (by omega))
theorem cpD_s {cl g : Nat → Int32} {t dp k : Nat} : upd (cpD cl g t dp k) (24 * t + dp + k) (g k) = cpD cl g t dp (k + 1) := funext (fun i => by
  unfold cpD
  by_cases e : i = 24 * t + dp + k
  · subst e; rw [pk_us, if_pos (by omega)]; exact congrArg g (by omega)
  · rw [pk_un e]
    by_cases q : 24 * t + dp ≤ i ∧ i < 24 * t + dp + k
    · rw [if_pos q, if_pos (by omega)]
    · rw [if_neg q, if_neg (by omega)])
theorem cpD_C {cl g : Nat → Int32} {s sp t dp m : Nat} (h : ∀ j, j < m → g j = cl (24 * s + sp + j)) : cpD cl g t dp m = cpC cl s sp t dp m := funext (fun i => by
  unfold cpD cpC
  by_cases q : 24 * t + dp ≤ i ∧ i < 24 * t + dp + m
  · rw [if_pos q, if_pos q]; exact h _ (by omega)
  · rw [if_neg q, if_neg q])
theorem cpT_0 {hc cl : Nat → Int32} {s t : Nat} : cpT hc cl s t 0 = hc := funext (fun i => if_neg (by omega))
theorem cpT_s {hc cl : Nat → Int32} {s t k : Nat} : upd (cpT hc cl s t k) (24 * s + k) (cl (24 * t + k)) = cpT hc cl s t (k + 1) := funext (fun i => by
  unfold cpT
  by_cases e : i = 24 * s + k
  · subst e; rw [pk_us, if_pos (by omega)]; exact congrArg cl (by omega)
  · rw [pk_un e]
    by_cases q : 24 * s ≤ i ∧ i < 24 * s + k
    · rw [if_pos q, if_pos (by omega)]
    · rw [if_neg q, if_neg (by omega)])
theorem wi_up {x y : Int32} {c : Nat} (hy : y = nI c) (hc : c < 1000) (h : wi x 0 y) : ∃ t, t ≤ c ∧ x = nI t := wi_nI (by rw [hy]; exact nI_toInt (by omega)) (by decide) h
theorem cpy_nat {p m : Int32} {z : Nat} (hz : z ≤ 24) (h1 : ¬ p < 0) (h2 : ¬ m < 0) (h3 : ¬ nI z - m < p) : ∃ pn mn, p = nI pn ∧ m = nI mn ∧ pn + mn ≤ z := by
  have z0 : (0 : Int32).toInt = 0 := rfl
  have a1 : ¬ p.toInt < 0 := fun q => h1 (Int32.lt_iff_toInt_lt.mpr (by omega))
  have a2 : ¬ m.toInt < 0 := fun q => h2 (Int32.lt_iff_toInt_lt.mpr (by omega))
  have b1 := p.toInt_lt
  have b2 := m.toInt_lt
  have ez : (nI z).toInt = (z : Int) := nI_toInt (by omega)
  have e3 : (nI z - m).toInt = (z : Int) - m.toInt := by
    rw [Int32.toInt_sub, ez]
    exact Int.bmod_eq_of_le (by omega) (by omega)
  have a3 : ¬ (z : Int) - m.toInt < p.toInt := fun q => h3 (Int32.lt_iff_toInt_lt.mpr (by omega))
  refine ⟨p.toInt.toNat, m.toInt.toNat, Int32.toInt_inj.mp ?_, Int32.toInt_inj.mp ?_, by omega⟩
  · rw [nI_toInt (by omega)]; omega
  · rw [nI_toInt (by omega)]; omega
noncomputable def cpK (sz : Nat → Int32) (s p t q m : Int32) : Prop := wi m 0 (sz (fN s)) ∧ wi p 0 (sz (fN s) - m) ∧ wi m 0 (sz (fN t)) ∧ wi q 0 (sz (fN t) - m)
noncomputable def cpV (sr sz : Nat → Int32) (s p t q m : Int32) : Int32 := cI (wi s 0 3 ∧ wi t 0 3) (cI (sr (fN s) = -1 ∨ sr (fN t) = -1) (-1000000011) (cI (sr (fN s) = sr (fN t)) (cI (cpK sz s p t q m) m (-1000000013)) (-1000000012))) (-1000000001)
noncomputable def cpR (sr sz : Nat → Int32) (s p t q m : Int32) (cl : Nat → Int32) : Nat → Int32 := cI (wi s 0 3 ∧ wi t 0 3 ∧ ¬ sr (fN s) = -1 ∧ ¬ sr (fN t) = -1 ∧ sr (fN s) = sr (fN t) ∧ cpK sz s p t q m) (cpC cl (fN s) (fN p) (fN t) (fN q) (fN m)) cl
theorem wi_n0 {t c : Nat} (h : t ≤ c) (hc : c < 1000) : wi (nI t) 0 (nI c) := ⟨nI_pos (by omega), nI_nlt h (by omega)⟩
set_option maxHeartbeats 4000000 in
set_option maxRecDepth 100000 in
theorem C_copy {X : List Int32} {d rc rs n : Nat} {Q : am_Q} {h : am_H} {N : Nat → Int32} {tx : List Value} {lk mv : Nat → Int32} {ik wc : Int32} {fr c : Nat} {s : Int32} {p : Int32} {t : Int32} {q : Int32} {m : Int32} {sr sz cl : Nat → Int32} (O : OB ik wc h) (Rw : RW sr sz cl h) (hI : RI sr sz) (hq : ∀ v9 c9 h9, v9 = cpV sr sz s p t q m → c9 = cpR sr sz s p t q m cl → RW sr sz c9 h9 → am_fp (fun k => k < 46 ∨ 54 ≤ k) h9 h → Q (some (.int v9)) n h9) : AW X mX7_copy (d + 12) rc rs 0 [some (.ref 0), some (.int s), some (.int p), some (.int t), some (.int q), some (.int m), none, none] [] n h Q := by
  refine aw_iload_n (npc := 1) rfl dX7_copy_0 rfl ?_
  refine aw_callS (npc := 4) (N := mX7_isSheet) (mc := 0) (ms := 0) (A := [.int s]) (S := []) (L0 := [some (.int s)]) dX7_copy_1 rfl km_X7_isSheet kk_X7_204 rfl ⟨rfl, by decide⟩ rfl (Nat.le_of_ble_eq_true rfl) (Nat.zero_add _) (Nat.zero_add _) rfl ?_
  refine c_X7_isSheet (fun hw1 => ?_) (fun hw1 => ?_)
  · obtain ⟨sn, hsn, esn⟩ := wi_nI (H := 3) (by decide) (by decide) hw1
    subst esn
    have fsn : fN (nI sn) = sn := fN_nI (by omega)
    obtain ⟨hsr, z9, hz9, ez9⟩ := hI sn (by omega)
    refine aw_re (S' := [.int 1]) rfl ?_
    refine aw_if_eq (npc := 7) (tgt := 14) dX7_copy_4 rfl (by decide) (fun hc => absurd hc (by decide)) (fun _ => ?_)
    refine aw_iload_n (npc := 8) rfl dX7_copy_7 rfl ?_
    refine aw_callS (npc := 11) (N := mX7_isSheet) (mc := 0) (ms := 0) (A := [.int t]) (S := []) (L0 := [some (.int t)]) dX7_copy_8 rfl km_X7_isSheet kk_X7_204 rfl ⟨rfl, by decide⟩ rfl (Nat.le_of_ble_eq_true rfl) (Nat.zero_add _) (Nat.zero_add _) rfl ?_
    refine c_X7_isSheet (fun hw2 => ?_) (fun hw2 => ?_)
    · obtain ⟨tn, htn, etn⟩ := wi_nI (H := 3) (by decide) (by decide) hw2
      subst etn
      have ftn : fN (nI tn) = tn := fN_nI (by omega)
      obtain ⟨htr, z8, hz8, ez8⟩ := hI tn (by omega)
      refine aw_re (S' := [.int 1]) rfl ?_
      refine aw_if_ne (npc := 14) (tgt := 17) dX7_copy_11 rfl (by decide) (fun _ => ?_) (fun hc => absurd hc (by decide))
      refine aw_aload_n (npc := 18) rfl dX7_copy_17 rfl ?_
      refine aw_get (npc := 21) dX7_copy_18 rfl kf_X7_47 O.1 rfl ?_
      refine aw_iload_n (npc := 22) rfl dX7_copy_21 rfl ?_
      refine aw_aald (npc := 23) (j := sn) dX7_copy_22 rfl (by decide) O.2.1 (am_ix_nI (by omega)) (sh_at (by omega)) ?_
      refine aw_astore (npc := 25) (L' := [some (.ref 0), some (.int (nI sn)), some (.int p), some (.int (nI tn)), some (.int q), some (.int m), some (.ref (46 + 2 * sn)), none]) dX7_copy_23 rfl (by decide) rfl rfl ?_
      refine aw_aload_n (npc := 26) rfl dX7_copy_25 rfl ?_
      refine aw_get (npc := 29) dX7_copy_26 rfl kf_X7_47 O.1 rfl ?_
      refine aw_iload_n (npc := 30) rfl dX7_copy_29 rfl ?_
      refine aw_aald (npc := 31) (j := tn) dX7_copy_30 rfl (by decide) O.2.1 (am_ix_nI (by omega)) (sh_at (by omega)) ?_
      refine aw_astore (npc := 33) (L' := [some (.ref 0), some (.int (nI sn)), some (.int p), some (.int (nI tn)), some (.int q), some (.int m), some (.ref (46 + 2 * sn)), some (.ref (46 + 2 * tn))]) dX7_copy_31 rfl (by decide) rfl rfl ?_
      refine aw_aload (npc := 35) rfl dX7_copy_33 rfl ?_
      refine aw_callV (npc := 38) (N := mX2_isMissing) (b := 46 + 2 * sn) (mc := 0) (ms := 0) (A := []) (S := []) (L0 := [some (.ref (46 + 2 * sn))]) dX7_copy_35 rfl km_X2_isMissing kk_X7_207 (Rw sn (by omega)).1 ⟨by decide, rfl⟩ rfl ⟨rfl, by decide⟩ rfl (Nat.le_of_ble_eq_true rfl) (Nat.zero_add _) (Nat.zero_add _) rfl ?_
      refine aw_aload_n (npc := 1) rfl dX2_isMissing_0 rfl ?_
      refine aw_get (npc := 4) dX2_isMissing_1 rfl kf_X2_9 (Rw sn (by omega)).1 rfl ?_
      rcases wi_cm1_1 hsr with esr | esr | esr
      · refine aw_top (y := -1) esr ?_
        refine aw_iconst (npc := 5) (v := -1) (by decide) dX2_isMissing_4 rfl ?_
        refine aw_icmp_ne (npc := 8) (tgt := 12) dX2_isMissing_5 rfl (by decide) (fun hc => absurd (by decide) hc) (fun _ => ?_)
        refine aw_iconst (npc := 9) (v := 1) (by decide) dX2_isMissing_8 rfl ?_
        refine aw_goto (npc := 13) dX2_isMissing_9 (by decide) ?_
        refine aw_zret rfl rfl dX2_isMissing_13 ?_
        refine aw_re (S' := [.int 1]) rfl ?_
        refine aw_if_ne (npc := 41) (tgt := 49) dX7_copy_38 rfl (by decide) (fun _ => ?_) (fun hc => absurd hc (by decide))
        refine aw_ldc (npc := 51) kc_X7_210 dX7_copy_49 rfl ?_
        refine aw_iret rfl dX7_copy_51 ?_
        exact hq _ _ _ (by simp [cpV, cpR, cI, hw1, hw2, fsn, ftn, esr]) (by simp [cpV, cpR, cI, hw1, hw2, fsn, ftn, esr]) Rw am_fp0
      · refine aw_top (y := 0) esr ?_
        refine aw_iconst (npc := 5) (v := -1) (by decide) dX2_isMissing_4 rfl ?_
        refine aw_icmp_ne (npc := 8) (tgt := 12) dX2_isMissing_5 rfl (by decide) (fun _ => ?_) (fun hc => absurd hc (by decide))
        refine aw_iconst (npc := 13) (v := 0) (by decide) dX2_isMissing_12 rfl ?_
        refine aw_zret rfl rfl dX2_isMissing_13 ?_
        refine aw_re (S' := [.int 0]) rfl ?_
        refine aw_if_ne (npc := 41) (tgt := 49) dX7_copy_38 rfl (by decide) (fun hc => absurd (by decide) hc) (fun _ => ?_)
        refine aw_aload (npc := 43) rfl dX7_copy_41 rfl ?_
        refine aw_callV (npc := 46) (N := mX2_isMissing) (b := 46 + 2 * tn) (mc := 0) (ms := 0) (A := []) (S := []) (L0 := [some (.ref (46 + 2 * tn))]) dX7_copy_43 rfl km_X2_isMissing kk_X7_207 (Rw tn (by omega)).1 ⟨by decide, rfl⟩ rfl ⟨rfl, by decide⟩ rfl (Nat.le_of_ble_eq_true rfl) (Nat.zero_add _) (Nat.zero_add _) rfl ?_
        refine aw_aload_n (npc := 1) rfl dX2_isMissing_0 rfl ?_
        refine aw_get (npc := 4) dX2_isMissing_1 rfl kf_X2_9 (Rw tn (by omega)).1 rfl ?_
        rcases wi_cm1_1 htr with etr | etr | etr
        · refine aw_top (y := -1) etr ?_
          refine aw_iconst (npc := 5) (v := -1) (by decide) dX2_isMissing_4 rfl ?_
          refine aw_icmp_ne (npc := 8) (tgt := 12) dX2_isMissing_5 rfl (by decide) (fun hc => absurd (by decide) hc) (fun _ => ?_)
          refine aw_iconst (npc := 9) (v := 1) (by decide) dX2_isMissing_8 rfl ?_
          refine aw_goto (npc := 13) dX2_isMissing_9 (by decide) ?_
          refine aw_zret rfl rfl dX2_isMissing_13 ?_
          refine aw_re (S' := [.int 1]) rfl ?_
          refine aw_if_eq (npc := 49) (tgt := 52) dX7_copy_46 rfl (by decide) (fun hc => absurd hc (by decide)) (fun _ => ?_)
          refine aw_ldc (npc := 51) kc_X7_210 dX7_copy_49 rfl ?_
          refine aw_iret rfl dX7_copy_51 ?_
          exact hq _ _ _ (by simp [cpV, cpR, cI, hw1, hw2, fsn, ftn, esr, etr]) (by simp [cpV, cpR, cI, hw1, hw2, fsn, ftn, esr, etr]) Rw am_fp0
        · refine aw_top (y := 0) etr ?_
          refine aw_iconst (npc := 5) (v := -1) (by decide) dX2_isMissing_4 rfl ?_
          refine aw_icmp_ne (npc := 8) (tgt := 12) dX2_isMissing_5 rfl (by decide) (fun _ => ?_) (fun hc => absurd hc (by decide))
          refine aw_iconst (npc := 13) (v := 0) (by decide) dX2_isMissing_12 rfl ?_
          refine aw_zret rfl rfl dX2_isMissing_13 ?_
          refine aw_re (S' := [.int 0]) rfl ?_
          refine aw_if_eq (npc := 49) (tgt := 52) dX7_copy_46 rfl (by decide) (fun _ => ?_) (fun hc => absurd (by decide) hc)
          refine aw_aload (npc := 54) rfl dX7_copy_52 rfl ?_
          refine aw_get (npc := 57) dX7_copy_54 rfl kf_X7_279 (Rw sn (by omega)).1 rfl ?_
          refine aw_top (y := 0) esr ?_
          refine aw_aload (npc := 59) rfl dX7_copy_57 rfl ?_
          refine aw_get (npc := 62) dX7_copy_59 rfl kf_X7_279 (Rw tn (by omega)).1 rfl ?_
          refine aw_top (y := 0) etr ?_
          refine aw_icmp_eq (npc := 65) (tgt := 68) dX7_copy_62 rfl (by decide) (fun _ => ?_) (fun hc => absurd (by decide) hc)
          refine aw_aload (npc := 70) rfl dX7_copy_68 rfl ?_
          refine aw_iload_n (npc := 71) rfl dX7_copy_70 rfl ?_
          refine aw_iload (npc := 73) rfl dX7_copy_71 rfl ?_
          refine aw_callV (npc := 76) (N := mX2_hasPlaces) (b := 46 + 2 * sn) (mc := 0) (ms := 0) (A := [.int p, .int m]) (S := []) (L0 := [some (.ref (46 + 2 * sn)), some (.int p), some (.int m)]) dX7_copy_73 rfl km_X2_hasPlaces kk_X7_290 (Rw sn (by omega)).1 ⟨by decide, rfl⟩ rfl ⟨rfl, by decide⟩ rfl (Nat.le_of_ble_eq_true rfl) (Nat.zero_add _) (Nat.zero_add _) rfl ?_
          refine aw_iload_n (npc := 1) rfl dX2_hasPlaces_0 rfl ?_
          refine aw_iconst (npc := 2) (v := 0) (by decide) dX2_hasPlaces_1 rfl ?_
          refine aw_aload_n (npc := 3) rfl dX2_hasPlaces_2 rfl ?_
          refine aw_get (npc := 6) dX2_hasPlaces_3 rfl kf_X2_15 (Rw sn (by omega)).1 rfl ?_
          refine aw_top (y := nI z9) (ez9) ?_
          refine aw_callSN (npc := 9) (N := mX7_within) (mc := 0) (ms := 0) (A := [.int m, .int 0, .int (nI z9)]) (S := []) (L0 := [some (.int m), some (.int 0), some (.int (nI z9))]) dX2_hasPlaces_6 rfl km_X7_within kk_X2_34 rfl ⟨rfl, by decide⟩ rfl (Nat.le_of_ble_eq_true rfl) (Nat.zero_add _) (Nat.zero_add _) rfl ?_
          refine c_X7_within (fun hw3 => ?_) (fun hw3 => ?_)
          · obtain ⟨mn, hmn, emn⟩ := wi_up rfl (by omega) hw3
            subst emn
            have fmn : fN (nI mn) = mn := fN_nI (by omega)
            refine aw_re (S' := [.int 1]) rfl ?_
            refine aw_if_eq (npc := 12) (tgt := 30) dX2_hasPlaces_9 rfl (by decide) (fun hc => absurd hc (by decide)) (fun _ => ?_)
            refine aw_iload_n (npc := 13) rfl dX2_hasPlaces_12 rfl ?_
            refine aw_iconst (npc := 14) (v := 0) (by decide) dX2_hasPlaces_13 rfl ?_
            refine aw_aload_n (npc := 15) rfl dX2_hasPlaces_14 rfl ?_
            refine aw_get (npc := 18) dX2_hasPlaces_15 rfl kf_X2_15 (Rw sn (by omega)).1 rfl ?_
            refine aw_top (y := nI z9) (ez9) ?_
            refine aw_iload_n (npc := 19) rfl dX2_hasPlaces_18 rfl ?_
            refine aw_isubV (npc := 20) (v := nI (z9 - mn)) dX2_hasPlaces_19 rfl (pk_sub (by omega)) ?_
            refine aw_callSN (npc := 23) (N := mX7_within) (mc := 0) (ms := 0) (A := [.int p, .int 0, .int (nI (z9 - mn))]) (S := []) (L0 := [some (.int p), some (.int 0), some (.int (nI (z9 - mn)))]) dX2_hasPlaces_20 rfl km_X7_within kk_X2_34 rfl ⟨rfl, by decide⟩ rfl (Nat.le_of_ble_eq_true rfl) (Nat.zero_add _) (Nat.zero_add _) rfl ?_
            refine c_X7_within (fun hw4 => ?_) (fun hw4 => ?_)
            · obtain ⟨pn, hpn, epn⟩ := wi_up rfl (by omega) hw4
              subst epn
              have fpn : fN (nI pn) = pn := fN_nI (by omega)
              refine aw_re (S' := [.int 1]) rfl ?_
              refine aw_if_eq (npc := 26) (tgt := 30) dX2_hasPlaces_23 rfl (by decide) (fun hc => absurd hc (by decide)) (fun _ => ?_)
              refine aw_iconst (npc := 27) (v := 1) (by decide) dX2_hasPlaces_26 rfl ?_
              refine aw_goto (npc := 31) dX2_hasPlaces_27 (by decide) ?_
              refine aw_zret rfl rfl dX2_hasPlaces_31 ?_
              refine aw_re (S' := [.int 1]) rfl ?_
              refine aw_if_eq (npc := 79) (tgt := 91) dX7_copy_76 rfl (by decide) (fun hc => absurd hc (by decide)) (fun _ => ?_)
              refine aw_aload (npc := 81) rfl dX7_copy_79 rfl ?_
              refine aw_iload (npc := 83) rfl dX7_copy_81 rfl ?_
              refine aw_iload (npc := 85) rfl dX7_copy_83 rfl ?_
              refine aw_callV (npc := 88) (N := mX2_hasPlaces) (b := 46 + 2 * tn) (mc := 0) (ms := 0) (A := [.int q, .int (nI mn)]) (S := []) (L0 := [some (.ref (46 + 2 * tn)), some (.int q), some (.int (nI mn))]) dX7_copy_85 rfl km_X2_hasPlaces kk_X7_290 (Rw tn (by omega)).1 ⟨by decide, rfl⟩ rfl ⟨rfl, by decide⟩ rfl (Nat.le_of_ble_eq_true rfl) (Nat.zero_add _) (Nat.zero_add _) rfl ?_
              refine aw_iload_n (npc := 1) rfl dX2_hasPlaces_0 rfl ?_
              refine aw_iconst (npc := 2) (v := 0) (by decide) dX2_hasPlaces_1 rfl ?_
              refine aw_aload_n (npc := 3) rfl dX2_hasPlaces_2 rfl ?_
              refine aw_get (npc := 6) dX2_hasPlaces_3 rfl kf_X2_15 (Rw tn (by omega)).1 rfl ?_
              refine aw_top (y := nI z8) (ez8) ?_
              refine aw_callSN (npc := 9) (N := mX7_within) (mc := 0) (ms := 0) (A := [.int (nI mn), .int 0, .int (nI z8)]) (S := []) (L0 := [some (.int (nI mn)), some (.int 0), some (.int (nI z8))]) dX2_hasPlaces_6 rfl km_X7_within kk_X2_34 rfl ⟨rfl, by decide⟩ rfl (Nat.le_of_ble_eq_true rfl) (Nat.zero_add _) (Nat.zero_add _) rfl ?_
              refine c_X7_within (fun hw5 => ?_) (fun hw5 => ?_)
              · have hm8 : mn ≤ z8 := (nI_leI (by omega) (by omega)).mp (Int32.not_lt.mp hw5.2)
                refine aw_re (S' := [.int 1]) rfl ?_
                refine aw_if_eq (npc := 12) (tgt := 30) dX2_hasPlaces_9 rfl (by decide) (fun hc => absurd hc (by decide)) (fun _ => ?_)
                refine aw_iload_n (npc := 13) rfl dX2_hasPlaces_12 rfl ?_
                refine aw_iconst (npc := 14) (v := 0) (by decide) dX2_hasPlaces_13 rfl ?_
                refine aw_aload_n (npc := 15) rfl dX2_hasPlaces_14 rfl ?_
                refine aw_get (npc := 18) dX2_hasPlaces_15 rfl kf_X2_15 (Rw tn (by omega)).1 rfl ?_
                refine aw_top (y := nI z8) (ez8) ?_
                refine aw_iload_n (npc := 19) rfl dX2_hasPlaces_18 rfl ?_
                refine aw_isubV (npc := 20) (v := nI (z8 - mn)) dX2_hasPlaces_19 rfl (pk_sub (by omega)) ?_
                refine aw_callSN (npc := 23) (N := mX7_within) (mc := 0) (ms := 0) (A := [.int q, .int 0, .int (nI (z8 - mn))]) (S := []) (L0 := [some (.int q), some (.int 0), some (.int (nI (z8 - mn)))]) dX2_hasPlaces_20 rfl km_X7_within kk_X2_34 rfl ⟨rfl, by decide⟩ rfl (Nat.le_of_ble_eq_true rfl) (Nat.zero_add _) (Nat.zero_add _) rfl ?_
                refine c_X7_within (fun hw6 => ?_) (fun hw6 => ?_)
                · obtain ⟨qn, hqn, eqn⟩ := wi_up rfl (by omega) hw6
                  subst eqn
                  have fqn : fN (nI qn) = qn := fN_nI (by omega)
                  refine aw_re (S' := [.int 1]) rfl ?_
                  refine aw_if_eq (npc := 26) (tgt := 30) dX2_hasPlaces_23 rfl (by decide) (fun hc => absurd hc (by decide)) (fun _ => ?_)
                  refine aw_iconst (npc := 27) (v := 1) (by decide) dX2_hasPlaces_26 rfl ?_
                  refine aw_goto (npc := 31) dX2_hasPlaces_27 (by decide) ?_
                  refine aw_zret rfl rfl dX2_hasPlaces_31 ?_
                  refine aw_re (S' := [.int 1]) rfl ?_
                  refine aw_if_ne (npc := 91) (tgt := 95) dX7_copy_88 rfl (by decide) (fun _ => ?_) (fun hc => absurd hc (by decide))
                  refine aw_aload (npc := 97) rfl dX7_copy_95 rfl ?_
                  refine aw_get (npc := 100) dX7_copy_97 rfl kf_X7_218 (Rw sn (by omega)).1 rfl ?_
                  refine aw_iload_n (npc := 101) rfl dX7_copy_100 rfl ?_
                  refine aw_aload (npc := 103) rfl dX7_copy_101 rfl ?_
                  refine aw_get (npc := 106) dX7_copy_103 rfl kf_X7_218 (Rw tn (by omega)).1 rfl ?_
                  refine aw_iload (npc := 108) rfl dX7_copy_106 rfl ?_
                  refine aw_iload (npc := 110) rfl dX7_copy_108 rfl ?_
                  refine aw_copyi (npc := 113) (sp := pn) (dp := qn) (mm := mn) dX7_copy_110 rfl kac_X7_293 kac_x (Rw sn (by omega)).2 (Rw tn (by omega)).2 (am_ix_nI (by omega)) (am_ix_nI (by omega)) (am_ix_nI (by omega)) (by rw [tl_len]; omega) (by rw [tl_len]; omega) (Nat.le_of_ble_eq_true rfl) rfl ?_
                  have Rw7 := rw_arr (cl' := cpC cl sn pn tn qn mn) (s := tn) Rw (cpC_l (by omega)) (fun t i ht hi e => cpC_o (by omega) (by omega) e)
                  have O8 := ob_out (a := 47 + 2 * tn) (c := .inl (0, am_cpy (tl 24 (fun i => cl (24 * sn + i))) (tl 24 (fun i => cl (24 * tn + i))) pn qn mn)) (by omega) O
                  refine aw_iload (npc := 115) rfl dX7_copy_113 rfl ?_
                  refine aw_iret rfl dX7_copy_115 ?_
                  have fK : cpK sz (nI sn) (nI pn) (nI tn) (nI qn) (nI mn) := by
                    unfold cpK
                    rw [fsn, ftn, ez9, ez8]
                    rw [pk_sub hmn, pk_sub hm8]
                    exact ⟨wi_n0 hmn (by omega), wi_n0 hpn (by omega), wi_n0 hm8 (by omega), wi_n0 hqn (by omega)⟩
                  exact hq _ _ _ (by simp [cpV, cpR, cI, hw1, hw2, hw3, hw4, hw5, hw6, fsn, ftn, fmn, fpn, fqn, esr, etr, fK]) (by simp [cpV, cpR, cI, hw1, hw2, hw3, hw4, hw5, hw6, fsn, ftn, fmn, fpn, fqn, esr, etr, fK]) Rw7 (am_fpU (show ¬ ((47 + 2 * tn) < 46 ∨ 54 ≤ (47 + 2 * tn)) by omega) am_fp0)
                · refine aw_re (S' := [.int 0]) rfl ?_
                  refine aw_if_eq (npc := 26) (tgt := 30) dX2_hasPlaces_23 rfl (by decide) (fun _ => ?_) (fun hc => absurd (by decide) hc)
                  refine aw_iconst (npc := 31) (v := 0) (by decide) dX2_hasPlaces_30 rfl ?_
                  refine aw_zret rfl rfl dX2_hasPlaces_31 ?_
                  refine aw_re (S' := [.int 0]) rfl ?_
                  refine aw_if_ne (npc := 91) (tgt := 95) dX7_copy_88 rfl (by decide) (fun hc => absurd (by decide) hc) (fun _ => ?_)
                  refine aw_ldcw (npc := 94) kc_X7_278 dX7_copy_91 rfl ?_
                  refine aw_iret rfl dX7_copy_94 ?_
                  have fK : ¬ cpK sz (nI sn) (nI pn) (nI tn) q (nI mn) := by
                    unfold cpK
                    rw [fsn, ftn, ez9, ez8]
                    try rw [pk_sub hmn]
                    try rw [pk_sub hm8]
                    exact fun K => hw6 K.2.2.2
                  exact hq _ _ _ (by simp [cpV, cpR, cI, hw1, hw2, hw3, hw4, hw5, hw6, fsn, ftn, fmn, fpn, esr, etr, fK]) (by simp [cpV, cpR, cI, hw1, hw2, hw3, hw4, hw5, hw6, fsn, ftn, fmn, fpn, esr, etr, fK]) Rw am_fp0
              · refine aw_re (S' := [.int 0]) rfl ?_
                refine aw_if_eq (npc := 12) (tgt := 30) dX2_hasPlaces_9 rfl (by decide) (fun _ => ?_) (fun hc => absurd (by decide) hc)
                refine aw_iconst (npc := 31) (v := 0) (by decide) dX2_hasPlaces_30 rfl ?_
                refine aw_zret rfl rfl dX2_hasPlaces_31 ?_
                refine aw_re (S' := [.int 0]) rfl ?_
                refine aw_if_ne (npc := 91) (tgt := 95) dX7_copy_88 rfl (by decide) (fun hc => absurd (by decide) hc) (fun _ => ?_)
                refine aw_ldcw (npc := 94) kc_X7_278 dX7_copy_91 rfl ?_
                refine aw_iret rfl dX7_copy_94 ?_
                have fK : ¬ cpK sz (nI sn) (nI pn) (nI tn) q (nI mn) := by
                  unfold cpK
                  rw [fsn, ftn, ez9, ez8]
                  try rw [pk_sub hmn]
                  exact fun K => hw5 K.2.2.1
                exact hq _ _ _ (by simp [cpV, cpR, cI, hw1, hw2, hw3, hw4, hw5, fsn, ftn, fmn, fpn, esr, etr, fK]) (by simp [cpV, cpR, cI, hw1, hw2, hw3, hw4, hw5, fsn, ftn, fmn, fpn, esr, etr, fK]) Rw am_fp0
            · refine aw_re (S' := [.int 0]) rfl ?_
              refine aw_if_eq (npc := 26) (tgt := 30) dX2_hasPlaces_23 rfl (by decide) (fun _ => ?_) (fun hc => absurd (by decide) hc)
              refine aw_iconst (npc := 31) (v := 0) (by decide) dX2_hasPlaces_30 rfl ?_
              refine aw_zret rfl rfl dX2_hasPlaces_31 ?_
              refine aw_re (S' := [.int 0]) rfl ?_
              refine aw_if_eq (npc := 79) (tgt := 91) dX7_copy_76 rfl (by decide) (fun _ => ?_) (fun hc => absurd (by decide) hc)
              refine aw_ldcw (npc := 94) kc_X7_278 dX7_copy_91 rfl ?_
              refine aw_iret rfl dX7_copy_94 ?_
              have fK : ¬ cpK sz (nI sn) p (nI tn) q (nI mn) := by
                unfold cpK
                rw [fsn, ftn, ez9, ez8]
                try rw [pk_sub hmn]
                exact fun K => hw4 K.2.1
              exact hq _ _ _ (by simp [cpV, cpR, cI, hw1, hw2, hw3, hw4, fsn, ftn, fmn, esr, etr, fK]) (by simp [cpV, cpR, cI, hw1, hw2, hw3, hw4, fsn, ftn, fmn, esr, etr, fK]) Rw am_fp0
          · refine aw_re (S' := [.int 0]) rfl ?_
            refine aw_if_eq (npc := 12) (tgt := 30) dX2_hasPlaces_9 rfl (by decide) (fun _ => ?_) (fun hc => absurd (by decide) hc)
            refine aw_iconst (npc := 31) (v := 0) (by decide) dX2_hasPlaces_30 rfl ?_
            refine aw_zret rfl rfl dX2_hasPlaces_31 ?_
            refine aw_re (S' := [.int 0]) rfl ?_
            refine aw_if_eq (npc := 79) (tgt := 91) dX7_copy_76 rfl (by decide) (fun _ => ?_) (fun hc => absurd (by decide) hc)
            refine aw_ldcw (npc := 94) kc_X7_278 dX7_copy_91 rfl ?_
            refine aw_iret rfl dX7_copy_94 ?_
            have fK : ¬ cpK sz (nI sn) p (nI tn) q m := by
              unfold cpK
              rw [fsn, ftn, ez9, ez8]
              exact fun K => hw3 K.1
            exact hq _ _ _ (by simp [cpV, cpR, cI, hw1, hw2, hw3, fsn, ftn, esr, etr, fK]) (by simp [cpV, cpR, cI, hw1, hw2, hw3, fsn, ftn, esr, etr, fK]) Rw am_fp0
        · refine aw_top (y := 1) etr ?_
          refine aw_iconst (npc := 5) (v := -1) (by decide) dX2_isMissing_4 rfl ?_
          refine aw_icmp_ne (npc := 8) (tgt := 12) dX2_isMissing_5 rfl (by decide) (fun _ => ?_) (fun hc => absurd hc (by decide))
          refine aw_iconst (npc := 13) (v := 0) (by decide) dX2_isMissing_12 rfl ?_
          refine aw_zret rfl rfl dX2_isMissing_13 ?_
          refine aw_re (S' := [.int 0]) rfl ?_
          refine aw_if_eq (npc := 49) (tgt := 52) dX7_copy_46 rfl (by decide) (fun _ => ?_) (fun hc => absurd (by decide) hc)
          refine aw_aload (npc := 54) rfl dX7_copy_52 rfl ?_
          refine aw_get (npc := 57) dX7_copy_54 rfl kf_X7_279 (Rw sn (by omega)).1 rfl ?_
          refine aw_top (y := 0) esr ?_
          refine aw_aload (npc := 59) rfl dX7_copy_57 rfl ?_
          refine aw_get (npc := 62) dX7_copy_59 rfl kf_X7_279 (Rw tn (by omega)).1 rfl ?_
          refine aw_top (y := 1) etr ?_
          refine aw_icmp_eq (npc := 65) (tgt := 68) dX7_copy_62 rfl (by decide) (fun hc => absurd hc (by decide)) (fun _ => ?_)
          refine aw_ldc (npc := 67) kc_X7_123 dX7_copy_65 rfl ?_
          refine aw_iret rfl dX7_copy_67 ?_
          exact hq _ _ _ (by simp [cpV, cpR, cI, hw1, hw2, fsn, ftn, esr, etr]) (by simp [cpV, cpR, cI, hw1, hw2, fsn, ftn, esr, etr]) Rw am_fp0
      · refine aw_top (y := 1) esr ?_
        refine aw_iconst (npc := 5) (v := -1) (by decide) dX2_isMissing_4 rfl ?_
        refine aw_icmp_ne (npc := 8) (tgt := 12) dX2_isMissing_5 rfl (by decide) (fun _ => ?_) (fun hc => absurd hc (by decide))
        refine aw_iconst (npc := 13) (v := 0) (by decide) dX2_isMissing_12 rfl ?_
        refine aw_zret rfl rfl dX2_isMissing_13 ?_
        refine aw_re (S' := [.int 0]) rfl ?_
        refine aw_if_ne (npc := 41) (tgt := 49) dX7_copy_38 rfl (by decide) (fun hc => absurd (by decide) hc) (fun _ => ?_)
        refine aw_aload (npc := 43) rfl dX7_copy_41 rfl ?_
        refine aw_callV (npc := 46) (N := mX2_isMissing) (b := 46 + 2 * tn) (mc := 0) (ms := 0) (A := []) (S := []) (L0 := [some (.ref (46 + 2 * tn))]) dX7_copy_43 rfl km_X2_isMissing kk_X7_207 (Rw tn (by omega)).1 ⟨by decide, rfl⟩ rfl ⟨rfl, by decide⟩ rfl (Nat.le_of_ble_eq_true rfl) (Nat.zero_add _) (Nat.zero_add _) rfl ?_
        refine aw_aload_n (npc := 1) rfl dX2_isMissing_0 rfl ?_
        refine aw_get (npc := 4) dX2_isMissing_1 rfl kf_X2_9 (Rw tn (by omega)).1 rfl ?_
        rcases wi_cm1_1 htr with etr | etr | etr
        · refine aw_top (y := -1) etr ?_
          refine aw_iconst (npc := 5) (v := -1) (by decide) dX2_isMissing_4 rfl ?_
          refine aw_icmp_ne (npc := 8) (tgt := 12) dX2_isMissing_5 rfl (by decide) (fun hc => absurd (by decide) hc) (fun _ => ?_)
          refine aw_iconst (npc := 9) (v := 1) (by decide) dX2_isMissing_8 rfl ?_
          refine aw_goto (npc := 13) dX2_isMissing_9 (by decide) ?_
          refine aw_zret rfl rfl dX2_isMissing_13 ?_
          refine aw_re (S' := [.int 1]) rfl ?_
          refine aw_if_eq (npc := 49) (tgt := 52) dX7_copy_46 rfl (by decide) (fun hc => absurd hc (by decide)) (fun _ => ?_)
          refine aw_ldc (npc := 51) kc_X7_210 dX7_copy_49 rfl ?_
          refine aw_iret rfl dX7_copy_51 ?_
          exact hq _ _ _ (by simp [cpV, cpR, cI, hw1, hw2, fsn, ftn, esr, etr]) (by simp [cpV, cpR, cI, hw1, hw2, fsn, ftn, esr, etr]) Rw am_fp0
        · refine aw_top (y := 0) etr ?_
          refine aw_iconst (npc := 5) (v := -1) (by decide) dX2_isMissing_4 rfl ?_
          refine aw_icmp_ne (npc := 8) (tgt := 12) dX2_isMissing_5 rfl (by decide) (fun _ => ?_) (fun hc => absurd hc (by decide))
          refine aw_iconst (npc := 13) (v := 0) (by decide) dX2_isMissing_12 rfl ?_
          refine aw_zret rfl rfl dX2_isMissing_13 ?_
          refine aw_re (S' := [.int 0]) rfl ?_
          refine aw_if_eq (npc := 49) (tgt := 52) dX7_copy_46 rfl (by decide) (fun _ => ?_) (fun hc => absurd (by decide) hc)
          refine aw_aload (npc := 54) rfl dX7_copy_52 rfl ?_
          refine aw_get (npc := 57) dX7_copy_54 rfl kf_X7_279 (Rw sn (by omega)).1 rfl ?_
          refine aw_top (y := 1) esr ?_
          refine aw_aload (npc := 59) rfl dX7_copy_57 rfl ?_
          refine aw_get (npc := 62) dX7_copy_59 rfl kf_X7_279 (Rw tn (by omega)).1 rfl ?_
          refine aw_top (y := 0) etr ?_
          refine aw_icmp_eq (npc := 65) (tgt := 68) dX7_copy_62 rfl (by decide) (fun hc => absurd hc (by decide)) (fun _ => ?_)
          refine aw_ldc (npc := 67) kc_X7_123 dX7_copy_65 rfl ?_
          refine aw_iret rfl dX7_copy_67 ?_
          exact hq _ _ _ (by simp [cpV, cpR, cI, hw1, hw2, fsn, ftn, esr, etr]) (by simp [cpV, cpR, cI, hw1, hw2, fsn, ftn, esr, etr]) Rw am_fp0
        · refine aw_top (y := 1) etr ?_
          refine aw_iconst (npc := 5) (v := -1) (by decide) dX2_isMissing_4 rfl ?_
          refine aw_icmp_ne (npc := 8) (tgt := 12) dX2_isMissing_5 rfl (by decide) (fun _ => ?_) (fun hc => absurd hc (by decide))
          refine aw_iconst (npc := 13) (v := 0) (by decide) dX2_isMissing_12 rfl ?_
          refine aw_zret rfl rfl dX2_isMissing_13 ?_
          refine aw_re (S' := [.int 0]) rfl ?_
          refine aw_if_eq (npc := 49) (tgt := 52) dX7_copy_46 rfl (by decide) (fun _ => ?_) (fun hc => absurd (by decide) hc)
          refine aw_aload (npc := 54) rfl dX7_copy_52 rfl ?_
          refine aw_get (npc := 57) dX7_copy_54 rfl kf_X7_279 (Rw sn (by omega)).1 rfl ?_
          refine aw_top (y := 1) esr ?_
          refine aw_aload (npc := 59) rfl dX7_copy_57 rfl ?_
          refine aw_get (npc := 62) dX7_copy_59 rfl kf_X7_279 (Rw tn (by omega)).1 rfl ?_
          refine aw_top (y := 1) etr ?_
          refine aw_icmp_eq (npc := 65) (tgt := 68) dX7_copy_62 rfl (by decide) (fun _ => ?_) (fun hc => absurd (by decide) hc)
          refine aw_aload (npc := 70) rfl dX7_copy_68 rfl ?_
          refine aw_iload_n (npc := 71) rfl dX7_copy_70 rfl ?_
          refine aw_iload (npc := 73) rfl dX7_copy_71 rfl ?_
          refine aw_callV (npc := 76) (N := mX2_hasPlaces) (b := 46 + 2 * sn) (mc := 0) (ms := 0) (A := [.int p, .int m]) (S := []) (L0 := [some (.ref (46 + 2 * sn)), some (.int p), some (.int m)]) dX7_copy_73 rfl km_X2_hasPlaces kk_X7_290 (Rw sn (by omega)).1 ⟨by decide, rfl⟩ rfl ⟨rfl, by decide⟩ rfl (Nat.le_of_ble_eq_true rfl) (Nat.zero_add _) (Nat.zero_add _) rfl ?_
          refine aw_iload_n (npc := 1) rfl dX2_hasPlaces_0 rfl ?_
          refine aw_iconst (npc := 2) (v := 0) (by decide) dX2_hasPlaces_1 rfl ?_
          refine aw_aload_n (npc := 3) rfl dX2_hasPlaces_2 rfl ?_
          refine aw_get (npc := 6) dX2_hasPlaces_3 rfl kf_X2_15 (Rw sn (by omega)).1 rfl ?_
          refine aw_top (y := nI z9) (ez9) ?_
          refine aw_callSN (npc := 9) (N := mX7_within) (mc := 0) (ms := 0) (A := [.int m, .int 0, .int (nI z9)]) (S := []) (L0 := [some (.int m), some (.int 0), some (.int (nI z9))]) dX2_hasPlaces_6 rfl km_X7_within kk_X2_34 rfl ⟨rfl, by decide⟩ rfl (Nat.le_of_ble_eq_true rfl) (Nat.zero_add _) (Nat.zero_add _) rfl ?_
          refine c_X7_within (fun hw9 => ?_) (fun hw9 => ?_)
          · obtain ⟨mn, hmn, emn⟩ := wi_up rfl (by omega) hw9
            subst emn
            have fmn : fN (nI mn) = mn := fN_nI (by omega)
            refine aw_re (S' := [.int 1]) rfl ?_
            refine aw_if_eq (npc := 12) (tgt := 30) dX2_hasPlaces_9 rfl (by decide) (fun hc => absurd hc (by decide)) (fun _ => ?_)
            refine aw_iload_n (npc := 13) rfl dX2_hasPlaces_12 rfl ?_
            refine aw_iconst (npc := 14) (v := 0) (by decide) dX2_hasPlaces_13 rfl ?_
            refine aw_aload_n (npc := 15) rfl dX2_hasPlaces_14 rfl ?_
            refine aw_get (npc := 18) dX2_hasPlaces_15 rfl kf_X2_15 (Rw sn (by omega)).1 rfl ?_
            refine aw_top (y := nI z9) (ez9) ?_
            refine aw_iload_n (npc := 19) rfl dX2_hasPlaces_18 rfl ?_
            refine aw_isubV (npc := 20) (v := nI (z9 - mn)) dX2_hasPlaces_19 rfl (pk_sub (by omega)) ?_
            refine aw_callSN (npc := 23) (N := mX7_within) (mc := 0) (ms := 0) (A := [.int p, .int 0, .int (nI (z9 - mn))]) (S := []) (L0 := [some (.int p), some (.int 0), some (.int (nI (z9 - mn)))]) dX2_hasPlaces_20 rfl km_X7_within kk_X2_34 rfl ⟨rfl, by decide⟩ rfl (Nat.le_of_ble_eq_true rfl) (Nat.zero_add _) (Nat.zero_add _) rfl ?_
            refine c_X7_within (fun hw10 => ?_) (fun hw10 => ?_)
            · obtain ⟨pn, hpn, epn⟩ := wi_up rfl (by omega) hw10
              subst epn
              have fpn : fN (nI pn) = pn := fN_nI (by omega)
              refine aw_re (S' := [.int 1]) rfl ?_
              refine aw_if_eq (npc := 26) (tgt := 30) dX2_hasPlaces_23 rfl (by decide) (fun hc => absurd hc (by decide)) (fun _ => ?_)
              refine aw_iconst (npc := 27) (v := 1) (by decide) dX2_hasPlaces_26 rfl ?_
              refine aw_goto (npc := 31) dX2_hasPlaces_27 (by decide) ?_
              refine aw_zret rfl rfl dX2_hasPlaces_31 ?_
              refine aw_re (S' := [.int 1]) rfl ?_
              refine aw_if_eq (npc := 79) (tgt := 91) dX7_copy_76 rfl (by decide) (fun hc => absurd hc (by decide)) (fun _ => ?_)
              refine aw_aload (npc := 81) rfl dX7_copy_79 rfl ?_
              refine aw_iload (npc := 83) rfl dX7_copy_81 rfl ?_
              refine aw_iload (npc := 85) rfl dX7_copy_83 rfl ?_
              refine aw_callV (npc := 88) (N := mX2_hasPlaces) (b := 46 + 2 * tn) (mc := 0) (ms := 0) (A := [.int q, .int (nI mn)]) (S := []) (L0 := [some (.ref (46 + 2 * tn)), some (.int q), some (.int (nI mn))]) dX7_copy_85 rfl km_X2_hasPlaces kk_X7_290 (Rw tn (by omega)).1 ⟨by decide, rfl⟩ rfl ⟨rfl, by decide⟩ rfl (Nat.le_of_ble_eq_true rfl) (Nat.zero_add _) (Nat.zero_add _) rfl ?_
              refine aw_iload_n (npc := 1) rfl dX2_hasPlaces_0 rfl ?_
              refine aw_iconst (npc := 2) (v := 0) (by decide) dX2_hasPlaces_1 rfl ?_
              refine aw_aload_n (npc := 3) rfl dX2_hasPlaces_2 rfl ?_
              refine aw_get (npc := 6) dX2_hasPlaces_3 rfl kf_X2_15 (Rw tn (by omega)).1 rfl ?_
              refine aw_top (y := nI z8) (ez8) ?_
              refine aw_callSN (npc := 9) (N := mX7_within) (mc := 0) (ms := 0) (A := [.int (nI mn), .int 0, .int (nI z8)]) (S := []) (L0 := [some (.int (nI mn)), some (.int 0), some (.int (nI z8))]) dX2_hasPlaces_6 rfl km_X7_within kk_X2_34 rfl ⟨rfl, by decide⟩ rfl (Nat.le_of_ble_eq_true rfl) (Nat.zero_add _) (Nat.zero_add _) rfl ?_
              refine c_X7_within (fun hw11 => ?_) (fun hw11 => ?_)
              · have hm8 : mn ≤ z8 := (nI_leI (by omega) (by omega)).mp (Int32.not_lt.mp hw11.2)
                refine aw_re (S' := [.int 1]) rfl ?_
                refine aw_if_eq (npc := 12) (tgt := 30) dX2_hasPlaces_9 rfl (by decide) (fun hc => absurd hc (by decide)) (fun _ => ?_)
                refine aw_iload_n (npc := 13) rfl dX2_hasPlaces_12 rfl ?_
                refine aw_iconst (npc := 14) (v := 0) (by decide) dX2_hasPlaces_13 rfl ?_
                refine aw_aload_n (npc := 15) rfl dX2_hasPlaces_14 rfl ?_
                refine aw_get (npc := 18) dX2_hasPlaces_15 rfl kf_X2_15 (Rw tn (by omega)).1 rfl ?_
                refine aw_top (y := nI z8) (ez8) ?_
                refine aw_iload_n (npc := 19) rfl dX2_hasPlaces_18 rfl ?_
                refine aw_isubV (npc := 20) (v := nI (z8 - mn)) dX2_hasPlaces_19 rfl (pk_sub (by omega)) ?_
                refine aw_callSN (npc := 23) (N := mX7_within) (mc := 0) (ms := 0) (A := [.int q, .int 0, .int (nI (z8 - mn))]) (S := []) (L0 := [some (.int q), some (.int 0), some (.int (nI (z8 - mn)))]) dX2_hasPlaces_20 rfl km_X7_within kk_X2_34 rfl ⟨rfl, by decide⟩ rfl (Nat.le_of_ble_eq_true rfl) (Nat.zero_add _) (Nat.zero_add _) rfl ?_
                refine c_X7_within (fun hw12 => ?_) (fun hw12 => ?_)
                · obtain ⟨qn, hqn, eqn⟩ := wi_up rfl (by omega) hw12
                  subst eqn
                  have fqn : fN (nI qn) = qn := fN_nI (by omega)
                  refine aw_re (S' := [.int 1]) rfl ?_
                  refine aw_if_eq (npc := 26) (tgt := 30) dX2_hasPlaces_23 rfl (by decide) (fun hc => absurd hc (by decide)) (fun _ => ?_)
                  refine aw_iconst (npc := 27) (v := 1) (by decide) dX2_hasPlaces_26 rfl ?_
                  refine aw_goto (npc := 31) dX2_hasPlaces_27 (by decide) ?_
                  refine aw_zret rfl rfl dX2_hasPlaces_31 ?_
                  refine aw_re (S' := [.int 1]) rfl ?_
                  refine aw_if_ne (npc := 91) (tgt := 95) dX7_copy_88 rfl (by decide) (fun _ => ?_) (fun hc => absurd hc (by decide))
                  refine aw_aload (npc := 97) rfl dX7_copy_95 rfl ?_
                  refine aw_get (npc := 100) dX7_copy_97 rfl kf_X7_218 (Rw sn (by omega)).1 rfl ?_
                  refine aw_iload_n (npc := 101) rfl dX7_copy_100 rfl ?_
                  refine aw_aload (npc := 103) rfl dX7_copy_101 rfl ?_
                  refine aw_get (npc := 106) dX7_copy_103 rfl kf_X7_218 (Rw tn (by omega)).1 rfl ?_
                  refine aw_iload (npc := 108) rfl dX7_copy_106 rfl ?_
                  refine aw_iload (npc := 110) rfl dX7_copy_108 rfl ?_
                  refine aw_copyi (npc := 113) (sp := pn) (dp := qn) (mm := mn) dX7_copy_110 rfl kac_X7_293 kac_x (Rw sn (by omega)).2 (Rw tn (by omega)).2 (am_ix_nI (by omega)) (am_ix_nI (by omega)) (am_ix_nI (by omega)) (by rw [tl_len]; omega) (by rw [tl_len]; omega) (Nat.le_of_ble_eq_true rfl) rfl ?_
                  have Rw13 := rw_arr (cl' := cpC cl sn pn tn qn mn) (s := tn) Rw (cpC_l (by omega)) (fun t i ht hi e => cpC_o (by omega) (by omega) e)
                  have O14 := ob_out (a := 47 + 2 * tn) (c := .inl (0, am_cpy (tl 24 (fun i => cl (24 * sn + i))) (tl 24 (fun i => cl (24 * tn + i))) pn qn mn)) (by omega) O
                  refine aw_iload (npc := 115) rfl dX7_copy_113 rfl ?_
                  refine aw_iret rfl dX7_copy_115 ?_
                  have fK : cpK sz (nI sn) (nI pn) (nI tn) (nI qn) (nI mn) := by
                    unfold cpK
                    rw [fsn, ftn, ez9, ez8]
                    rw [pk_sub hmn, pk_sub hm8]
                    exact ⟨wi_n0 hmn (by omega), wi_n0 hpn (by omega), wi_n0 hm8 (by omega), wi_n0 hqn (by omega)⟩
                  exact hq _ _ _ (by simp [cpV, cpR, cI, hw1, hw2, hw9, hw10, hw11, hw12, fsn, ftn, fmn, fpn, fqn, esr, etr, fK]) (by simp [cpV, cpR, cI, hw1, hw2, hw9, hw10, hw11, hw12, fsn, ftn, fmn, fpn, fqn, esr, etr, fK]) Rw13 (am_fpU (show ¬ ((47 + 2 * tn) < 46 ∨ 54 ≤ (47 + 2 * tn)) by omega) am_fp0)
                · refine aw_re (S' := [.int 0]) rfl ?_
                  refine aw_if_eq (npc := 26) (tgt := 30) dX2_hasPlaces_23 rfl (by decide) (fun _ => ?_) (fun hc => absurd (by decide) hc)
                  refine aw_iconst (npc := 31) (v := 0) (by decide) dX2_hasPlaces_30 rfl ?_
                  refine aw_zret rfl rfl dX2_hasPlaces_31 ?_
                  refine aw_re (S' := [.int 0]) rfl ?_
                  refine aw_if_ne (npc := 91) (tgt := 95) dX7_copy_88 rfl (by decide) (fun hc => absurd (by decide) hc) (fun _ => ?_)
                  refine aw_ldcw (npc := 94) kc_X7_278 dX7_copy_91 rfl ?_
                  refine aw_iret rfl dX7_copy_94 ?_
                  have fK : ¬ cpK sz (nI sn) (nI pn) (nI tn) q (nI mn) := by
                    unfold cpK
                    rw [fsn, ftn, ez9, ez8]
                    try rw [pk_sub hmn]
                    try rw [pk_sub hm8]
                    exact fun K => hw12 K.2.2.2
                  exact hq _ _ _ (by simp [cpV, cpR, cI, hw1, hw2, hw9, hw10, hw11, hw12, fsn, ftn, fmn, fpn, esr, etr, fK]) (by simp [cpV, cpR, cI, hw1, hw2, hw9, hw10, hw11, hw12, fsn, ftn, fmn, fpn, esr, etr, fK]) Rw am_fp0
              · refine aw_re (S' := [.int 0]) rfl ?_
                refine aw_if_eq (npc := 12) (tgt := 30) dX2_hasPlaces_9 rfl (by decide) (fun _ => ?_) (fun hc => absurd (by decide) hc)
                refine aw_iconst (npc := 31) (v := 0) (by decide) dX2_hasPlaces_30 rfl ?_
                refine aw_zret rfl rfl dX2_hasPlaces_31 ?_
                refine aw_re (S' := [.int 0]) rfl ?_
                refine aw_if_ne (npc := 91) (tgt := 95) dX7_copy_88 rfl (by decide) (fun hc => absurd (by decide) hc) (fun _ => ?_)
                refine aw_ldcw (npc := 94) kc_X7_278 dX7_copy_91 rfl ?_
                refine aw_iret rfl dX7_copy_94 ?_
                have fK : ¬ cpK sz (nI sn) (nI pn) (nI tn) q (nI mn) := by
                  unfold cpK
                  rw [fsn, ftn, ez9, ez8]
                  try rw [pk_sub hmn]
                  exact fun K => hw11 K.2.2.1
                exact hq _ _ _ (by simp [cpV, cpR, cI, hw1, hw2, hw9, hw10, hw11, fsn, ftn, fmn, fpn, esr, etr, fK]) (by simp [cpV, cpR, cI, hw1, hw2, hw9, hw10, hw11, fsn, ftn, fmn, fpn, esr, etr, fK]) Rw am_fp0
            · refine aw_re (S' := [.int 0]) rfl ?_
              refine aw_if_eq (npc := 26) (tgt := 30) dX2_hasPlaces_23 rfl (by decide) (fun _ => ?_) (fun hc => absurd (by decide) hc)
              refine aw_iconst (npc := 31) (v := 0) (by decide) dX2_hasPlaces_30 rfl ?_
              refine aw_zret rfl rfl dX2_hasPlaces_31 ?_
              refine aw_re (S' := [.int 0]) rfl ?_
              refine aw_if_eq (npc := 79) (tgt := 91) dX7_copy_76 rfl (by decide) (fun _ => ?_) (fun hc => absurd (by decide) hc)
              refine aw_ldcw (npc := 94) kc_X7_278 dX7_copy_91 rfl ?_
              refine aw_iret rfl dX7_copy_94 ?_
              have fK : ¬ cpK sz (nI sn) p (nI tn) q (nI mn) := by
                unfold cpK
                rw [fsn, ftn, ez9, ez8]
                try rw [pk_sub hmn]
                exact fun K => hw10 K.2.1
              exact hq _ _ _ (by simp [cpV, cpR, cI, hw1, hw2, hw9, hw10, fsn, ftn, fmn, esr, etr, fK]) (by simp [cpV, cpR, cI, hw1, hw2, hw9, hw10, fsn, ftn, fmn, esr, etr, fK]) Rw am_fp0
          · refine aw_re (S' := [.int 0]) rfl ?_
            refine aw_if_eq (npc := 12) (tgt := 30) dX2_hasPlaces_9 rfl (by decide) (fun _ => ?_) (fun hc => absurd (by decide) hc)
            refine aw_iconst (npc := 31) (v := 0) (by decide) dX2_hasPlaces_30 rfl ?_
            refine aw_zret rfl rfl dX2_hasPlaces_31 ?_
            refine aw_re (S' := [.int 0]) rfl ?_
            refine aw_if_eq (npc := 79) (tgt := 91) dX7_copy_76 rfl (by decide) (fun _ => ?_) (fun hc => absurd (by decide) hc)
            refine aw_ldcw (npc := 94) kc_X7_278 dX7_copy_91 rfl ?_
            refine aw_iret rfl dX7_copy_94 ?_
            have fK : ¬ cpK sz (nI sn) p (nI tn) q m := by
              unfold cpK
              rw [fsn, ftn, ez9, ez8]
              exact fun K => hw9 K.1
            exact hq _ _ _ (by simp [cpV, cpR, cI, hw1, hw2, hw9, fsn, ftn, esr, etr, fK]) (by simp [cpV, cpR, cI, hw1, hw2, hw9, fsn, ftn, esr, etr, fK]) Rw am_fp0
    · refine aw_re (S' := [.int 0]) rfl ?_
      refine aw_if_ne (npc := 14) (tgt := 17) dX7_copy_11 rfl (by decide) (fun hc => absurd (by decide) hc) (fun _ => ?_)
      refine aw_ldc (npc := 16) kc_X7_78 dX7_copy_14 rfl ?_
      refine aw_iret rfl dX7_copy_16 ?_
      exact hq _ _ _ (by simp [cpV, cpR, cI, hw1, hw2, fsn]) (by simp [cpV, cpR, cI, hw1, hw2, fsn]) Rw am_fp0
  · refine aw_re (S' := [.int 0]) rfl ?_
    refine aw_if_eq (npc := 7) (tgt := 14) dX7_copy_4 rfl (by decide) (fun _ => ?_) (fun hc => absurd (by decide) hc)
    refine aw_ldc (npc := 16) kc_X7_78 dX7_copy_14 rfl ?_
    refine aw_iret rfl dX7_copy_16 ?_
    exact hq _ _ _ (by simp [cpV, cpR, cI, hw1]) (by simp [cpV, cpR, cI, hw1]) Rw am_fp0
set_option maxHeartbeats 4000000 in
set_option maxRecDepth 100000 in
theorem m_copy1 {X : List Int32} {d rc rs n : Nat} {Q : am_Q} {o N : Nat → Int32} {s p t q m : Nat} (hs : s < 4) (ht : t < 4) (hp : p + m ≤ 24) (hq9 : q + m ≤ 24) {a0 : Nat → Nat → Int32} : ∀ (i k : Nat), k + i = m → ∀ (a : Nat → Nat → Int32) (h : am_H), MR o N a h → (∀ j, j < k → a 90 j = a0 85 (24 * s + p + j)) → (∀ c, c ≠ 90 → a c = a0 c) → (∀ a9 h9, MR o N a9 h9 → (∀ j, j < m → a9 90 j = a0 85 (24 * s + p + j)) → (∀ c, c ≠ 90 → a9 c = a0 c) → am_fp (fun k => k < 69 ∨ 92 ≤ k) h9 h → AW X mX8_copy d rc rs 138 [some (.ref 69), some (.int (nI s)), some (.int (nI p)), some (.int (nI t)), some (.int (nI q)), some (.int (nI m)), some (.int (nI m))] [] n h9 Q) → AW X mX8_copy d rc rs 104 [some (.ref 69), some (.int (nI s)), some (.int (nI p)), some (.int (nI t)), some (.int (nI q)), some (.int (nI m)), some (.int (nI k))] [] n h Q := by
  intro i
  induction i with
  | zero =>
    intro k hk a h F hk9 hc9 hq
    obtain rfl : k = m := by omega
    refine aw_iload (npc := 106) rfl dX8_copy_104 rfl ?_
    refine aw_iload (npc := 108) rfl dX8_copy_106 rfl ?_
    exact aw_icmp_ge (npc := 111) (tgt := 138) dX8_copy_108 rfl (by decide) (fun _ => hq _ _ F hk9 hc9 am_fp0) (fun hc => absurd (nI_le (Nat.le_refl _) (by omega)) hc)
  | succ i ih =>
    intro k hk a h F hk9 hc9 hq
    refine aw_iload (npc := 106) rfl dX8_copy_104 rfl ?_
    refine aw_iload (npc := 108) rfl dX8_copy_106 rfl ?_
    refine aw_icmp_ge (npc := 111) (tgt := 138) dX8_copy_108 rfl (by decide) (fun hc => absurd hc (nI_ge (a := k) (b := m) (by omega) (by omega))) (fun _ => ?_)
    refine aw_aload_n (npc := 112) rfl dX8_copy_111 rfl ?_
    refine aw_get (npc := 115) dX8_copy_112 rfl kf_X8_76 F.1 rfl ?_
    refine aw_iload (npc := 117) rfl dX8_copy_115 rfl ?_
    refine aw_aload_n (npc := 118) rfl dX8_copy_117 rfl ?_
    refine aw_get (npc := 121) dX8_copy_118 rfl kf_X8_61 F.1 rfl ?_
    refine aw_bipush (npc := 123) (v := 24) (by decide) dX8_copy_121 rfl ?_
    refine aw_iload_n (npc := 124) rfl dX8_copy_123 rfl ?_
    refine aw_imulV (npc := 125) (v := nI (24 * s)) dX8_copy_124 rfl (pk_mul 24 _) ?_
    refine aw_iload_n (npc := 126) rfl dX8_copy_125 rfl ?_
    refine aw_iaddV (npc := 127) (v := nI ((24 * s) + p)) dX8_copy_126 rfl (nI_add _ _) ?_
    refine aw_iload (npc := 129) rfl dX8_copy_127 rfl ?_
    refine aw_iaddV (npc := 130) (v := nI (((24 * s) + p) + k)) dX8_copy_129 rfl (nI_add _ _) ?_
    refine aw_iald (npc := 131) (x := (a 85) (((24 * s) + p) + k)) (j := (((24 * s) + p) + k)) dX8_copy_130 rfl F.2.2.2.2.2.2.2.2.2.2.2.2.2.2.2.2.1 (am_ix_nI (by omega)) (tl_at (by omega)) ?_
    refine aw_iast (npc := 132) (j := k) dX8_copy_131 rfl F.2.2.2.2.2.2.2.2.2.2.2.2.2.2.2.2.2.2.2.2.2.1 (am_ix_nI (by omega)) (by rw [tl_len]; omega) rfl ?_
    have F2 := mr_90 (j := k) (v := (a 85) (((24 * s) + p) + k)) F
    refine aw_iinc (npc := 135) (v := nI (k + 1)) (L' := [some (.ref 69), some (.int (nI s)), some (.int (nI p)), some (.int (nI t)), some (.int (nI q)), some (.int (nI m)), some (.int (nI (k + 1)))]) dX8_copy_132 rfl rfl (nI_1 _) (by decide) rfl rfl ?_
    refine aw_goto (npc := 104) dX8_copy_135 (by decide) ?_
    refine ih (k + 1) (by omega) _ _ F2 (fun j hj => ?_) (fun c hc => (aup_n hc).trans (hc9 c hc)) (fun a9 h9 M9 e9 c9 f9 => hq a9 h9 M9 e9 c9 (am_fpT f9 (am_fpU (show ¬ (90 < 69 ∨ 92 ≤ 90) by omega) am_fp0)))
    rw [aup_s, hc9 85 (by decide)]
    by_cases z : j = k
    · subst z; exact pk_us
    · exact (pk_un z).trans (hk9 j (by omega))
set_option maxHeartbeats 4000000 in
set_option maxRecDepth 100000 in
theorem m_copy2 {X : List Int32} {d rc rs n : Nat} {Q : am_Q} {o N : Nat → Int32} {s p t q m : Nat} (hs : s < 4) (ht : t < 4) (hp : p + m ≤ 24) (hq9 : q + m ≤ 24) {a0 : Nat → Nat → Int32} : ∀ (i k : Nat), k + i = m → ∀ (a : Nat → Nat → Int32) (h : am_H), MR o N a h → a 85 = cpD (a0 85) (a0 90) t q k → (∀ c, c ≠ 85 → a c = a0 c) → (∀ a9 h9, MR o N a9 h9 → a9 85 = cpD (a0 85) (a0 90) t q m → (∀ c, c ≠ 85 → a9 c = a0 c) → am_fp (fun k => k < 69 ∨ 92 ≤ k) h9 h → AW X mX8_copy d rc rs 176 [some (.ref 69), some (.int (nI s)), some (.int (nI p)), some (.int (nI t)), some (.int (nI q)), some (.int (nI m)), some (.int (nI m))] [] n h9 Q) → AW X mX8_copy d rc rs 141 [some (.ref 69), some (.int (nI s)), some (.int (nI p)), some (.int (nI t)), some (.int (nI q)), some (.int (nI m)), some (.int (nI k))] [] n h Q := by
  intro i
  induction i with
  | zero =>
    intro k hk a h F hk9 hc9 hq
    obtain rfl : k = m := by omega
    refine aw_iload (npc := 143) rfl dX8_copy_141 rfl ?_
    refine aw_iload (npc := 145) rfl dX8_copy_143 rfl ?_
    exact aw_icmp_ge (npc := 148) (tgt := 176) dX8_copy_145 rfl (by decide) (fun _ => hq _ _ F hk9 hc9 am_fp0) (fun hc => absurd (nI_le (Nat.le_refl _) (by omega)) hc)
  | succ i ih =>
    intro k hk a h F hk9 hc9 hq
    refine aw_iload (npc := 143) rfl dX8_copy_141 rfl ?_
    refine aw_iload (npc := 145) rfl dX8_copy_143 rfl ?_
    refine aw_icmp_ge (npc := 148) (tgt := 176) dX8_copy_145 rfl (by decide) (fun hc => absurd hc (nI_ge (a := k) (b := m) (by omega) (by omega))) (fun _ => ?_)
    refine aw_aload_n (npc := 149) rfl dX8_copy_148 rfl ?_
    refine aw_get (npc := 152) dX8_copy_149 rfl kf_X8_61 F.1 rfl ?_
    refine aw_bipush (npc := 154) (v := 24) (by decide) dX8_copy_152 rfl ?_
    refine aw_iload_n (npc := 155) rfl dX8_copy_154 rfl ?_
    refine aw_imulV (npc := 156) (v := nI (24 * t)) dX8_copy_155 rfl (pk_mul 24 _) ?_
    refine aw_iload (npc := 158) rfl dX8_copy_156 rfl ?_
    refine aw_iaddV (npc := 159) (v := nI ((24 * t) + q)) dX8_copy_158 rfl (nI_add _ _) ?_
    refine aw_iload (npc := 161) rfl dX8_copy_159 rfl ?_
    refine aw_iaddV (npc := 162) (v := nI (((24 * t) + q) + k)) dX8_copy_161 rfl (nI_add _ _) ?_
    refine aw_aload_n (npc := 163) rfl dX8_copy_162 rfl ?_
    refine aw_get (npc := 166) dX8_copy_163 rfl kf_X8_76 F.1 rfl ?_
    refine aw_iload (npc := 168) rfl dX8_copy_166 rfl ?_
    refine aw_iald (npc := 169) (x := (a 90) k) (j := k) dX8_copy_168 rfl F.2.2.2.2.2.2.2.2.2.2.2.2.2.2.2.2.2.2.2.2.2.1 (am_ix_nI (by omega)) (tl_at (by omega)) ?_
    refine aw_iast (npc := 170) (j := (((24 * t) + q) + k)) dX8_copy_169 rfl F.2.2.2.2.2.2.2.2.2.2.2.2.2.2.2.2.1 (am_ix_nI (by omega)) (by rw [tl_len]; omega) rfl ?_
    have F2 := mr_85 (j := (((24 * t) + q) + k)) (v := (a 90) k) F
    refine aw_iinc (npc := 173) (v := nI (k + 1)) (L' := [some (.ref 69), some (.int (nI s)), some (.int (nI p)), some (.int (nI t)), some (.int (nI q)), some (.int (nI m)), some (.int (nI (k + 1)))]) dX8_copy_170 rfl rfl (nI_1 _) (by decide) rfl rfl ?_
    refine aw_goto (npc := 141) dX8_copy_173 (by decide) ?_
    refine ih (k + 1) (by omega) _ _ F2 ?_ (fun c hc => (aup_n hc).trans (hc9 c hc)) (fun a9 h9 M9 e9 c9 f9 => hq a9 h9 M9 e9 c9 (am_fpT f9 (am_fpU (show ¬ (85 < 69 ∨ 92 ≤ 85) by omega) am_fp0)))
    rw [aup_s, hk9, hc9 90 (by decide)]
    exact cpD_s
set_option maxHeartbeats 4000000 in
set_option maxRecDepth 100000 in
theorem M_copy {X : List Int32} {d rc rs n : Nat} {Q : am_Q} {h : am_H} {o N : Nat → Int32} {a : Nat → Nat → Int32} {fr c : Nat} {s : Int32} {p : Int32} {t : Int32} {q : Int32} {m : Int32} (F : MR o N a h) (hI : RI (a 83) (a 84)) (hq : ∀ v9 a9 h9, v9 = cpV (a 83) (a 84) s p t q m → a9 85 = cpR (a 83) (a 84) s p t q m (a 85) → (∀ c, c ≠ 85 → c ≠ 90 → a9 c = a c) → MR o N a9 h9 → am_fp (fun k => k < 69 ∨ 92 ≤ k) h9 h → Q (some (.int v9)) n h9) : AW X mX8_copy (d + 12) rc rs 0 [some (.ref 69), some (.int s), some (.int p), some (.int t), some (.int q), some (.int m), none] [] n h Q := by
  refine aw_iload_n (npc := 1) rfl dX8_copy_0 rfl ?_
  refine aw_callS (npc := 4) (N := mX8_isSheet) (mc := 0) (ms := 0) (A := [.int s]) (S := []) (L0 := [some (.int s)]) dX8_copy_1 rfl km_X8_isSheet kk_X8_184 rfl ⟨rfl, by decide⟩ rfl (Nat.le_of_ble_eq_true rfl) (Nat.zero_add _) (Nat.zero_add _) rfl ?_
  refine c_X8_isSheet (fun hw1 => ?_) (fun hw1 => ?_)
  · obtain ⟨sn, hsn, esn⟩ := wi_nI (H := 3) (by decide) (by decide) hw1
    subst esn
    have fsn : fN (nI sn) = sn := fN_nI (by omega)
    obtain ⟨hsr, z9, hz9, ez9⟩ := hI sn (by omega)
    refine aw_re (S' := [.int 1]) rfl ?_
    refine aw_if_eq (npc := 7) (tgt := 14) dX8_copy_4 rfl (by decide) (fun hc => absurd hc (by decide)) (fun _ => ?_)
    refine aw_iload_n (npc := 8) rfl dX8_copy_7 rfl ?_
    refine aw_callS (npc := 11) (N := mX8_isSheet) (mc := 0) (ms := 0) (A := [.int t]) (S := []) (L0 := [some (.int t)]) dX8_copy_8 rfl km_X8_isSheet kk_X8_184 rfl ⟨rfl, by decide⟩ rfl (Nat.le_of_ble_eq_true rfl) (Nat.zero_add _) (Nat.zero_add _) rfl ?_
    refine c_X8_isSheet (fun hw2 => ?_) (fun hw2 => ?_)
    · obtain ⟨tn, htn, etn⟩ := wi_nI (H := 3) (by decide) (by decide) hw2
      subst etn
      have ftn : fN (nI tn) = tn := fN_nI (by omega)
      obtain ⟨htr, z8, hz8, ez8⟩ := hI tn (by omega)
      refine aw_re (S' := [.int 1]) rfl ?_
      refine aw_if_ne (npc := 14) (tgt := 17) dX8_copy_11 rfl (by decide) (fun _ => ?_) (fun hc => absurd hc (by decide))
      refine aw_aload_n (npc := 18) rfl dX8_copy_17 rfl ?_
      refine aw_get (npc := 21) dX8_copy_18 rfl kf_X8_55 F.1 rfl ?_
      refine aw_iload_n (npc := 22) rfl dX8_copy_21 rfl ?_
      refine aw_iald (npc := 23) (x := (a 83) sn) (j := sn) dX8_copy_22 rfl F.2.2.2.2.2.2.2.2.2.2.2.2.2.2.1 (am_ix_nI (by omega)) (tl_at (by omega)) ?_
      rcases wi_cm1_1 hsr with esr | esr | esr
      · refine aw_top (y := -1) esr ?_
        refine aw_if_lt (npc := 26) (tgt := 35) dX8_copy_23 rfl (by decide) (fun _ => ?_) (fun hc => absurd (by decide) hc)
        refine aw_ldc (npc := 37) kc_X8_187 dX8_copy_35 rfl ?_
        refine aw_iret rfl dX8_copy_37 ?_
        exact hq _ _ _ (by simp [cpV, cpR, cI, hw1, hw2, fsn, ftn, esr]) (by simp [cpV, cpR, cI, hw1, hw2, fsn, ftn, esr]) (fun _ _ _ => rfl) F am_fp0
      · refine aw_top (y := 0) esr ?_
        refine aw_if_lt (npc := 26) (tgt := 35) dX8_copy_23 rfl (by decide) (fun hc => absurd hc (by decide)) (fun _ => ?_)
        refine aw_aload_n (npc := 27) rfl dX8_copy_26 rfl ?_
        refine aw_get (npc := 30) dX8_copy_27 rfl kf_X8_55 F.1 rfl ?_
        refine aw_iload_n (npc := 31) rfl dX8_copy_30 rfl ?_
        refine aw_iald (npc := 32) (x := (a 83) tn) (j := tn) dX8_copy_31 rfl F.2.2.2.2.2.2.2.2.2.2.2.2.2.2.1 (am_ix_nI (by omega)) (tl_at (by omega)) ?_
        rcases wi_cm1_1 htr with etr | etr | etr
        · refine aw_top (y := -1) etr ?_
          refine aw_if_ge (npc := 35) (tgt := 38) dX8_copy_32 rfl (by decide) (fun hc => absurd hc (by decide)) (fun _ => ?_)
          refine aw_ldc (npc := 37) kc_X8_187 dX8_copy_35 rfl ?_
          refine aw_iret rfl dX8_copy_37 ?_
          exact hq _ _ _ (by simp [cpV, cpR, cI, hw1, hw2, fsn, ftn, esr, etr]) (by simp [cpV, cpR, cI, hw1, hw2, fsn, ftn, esr, etr]) (fun _ _ _ => rfl) F am_fp0
        · refine aw_top (y := 0) etr ?_
          refine aw_if_ge (npc := 35) (tgt := 38) dX8_copy_32 rfl (by decide) (fun _ => ?_) (fun hc => absurd (by decide) hc)
          refine aw_aload_n (npc := 39) rfl dX8_copy_38 rfl ?_
          refine aw_get (npc := 42) dX8_copy_39 rfl kf_X8_55 F.1 rfl ?_
          refine aw_iload_n (npc := 43) rfl dX8_copy_42 rfl ?_
          refine aw_iald (npc := 44) (x := (a 83) sn) (j := sn) dX8_copy_43 rfl F.2.2.2.2.2.2.2.2.2.2.2.2.2.2.1 (am_ix_nI (by omega)) (tl_at (by omega)) ?_
          refine aw_top (y := 0) esr ?_
          refine aw_aload_n (npc := 45) rfl dX8_copy_44 rfl ?_
          refine aw_get (npc := 48) dX8_copy_45 rfl kf_X8_55 F.1 rfl ?_
          refine aw_iload_n (npc := 49) rfl dX8_copy_48 rfl ?_
          refine aw_iald (npc := 50) (x := (a 83) tn) (j := tn) dX8_copy_49 rfl F.2.2.2.2.2.2.2.2.2.2.2.2.2.2.1 (am_ix_nI (by omega)) (tl_at (by omega)) ?_
          refine aw_top (y := 0) etr ?_
          refine aw_icmp_eq (npc := 53) (tgt := 56) dX8_copy_50 rfl (by decide) (fun _ => ?_) (fun hc => absurd (by decide) hc)
          refine aw_iload_n (npc := 57) rfl dX8_copy_56 rfl ?_
          refine aw_if_lt (npc := 60) (tgt := 97) dX8_copy_57 rfl (by decide) (fun hc3 => ?_) (fun hc3 => ?_)
          · refine aw_ldcw (npc := 100) kc_X8_259 dX8_copy_97 rfl ?_
            refine aw_iret rfl dX8_copy_100 ?_
            have fK : ¬ cpK (a 84) (nI sn) p (nI tn) q m := by
              unfold cpK
              rw [fsn, ftn]
              exact fun K => K.2.1.1 hc3
            exact hq _ _ _ (by simp [cpV, cpR, cI, hw1, hw2, hc3, fsn, ftn, esr, etr, fK]) (by simp [cpV, cpR, cI, hw1, hw2, hc3, fsn, ftn, esr, etr, fK]) (fun _ _ _ => rfl) F am_fp0
          · refine aw_iload (npc := 62) rfl dX8_copy_60 rfl ?_
            refine aw_if_lt (npc := 65) (tgt := 97) dX8_copy_62 rfl (by decide) (fun hc4 => ?_) (fun hc4 => ?_)
            · refine aw_ldcw (npc := 100) kc_X8_259 dX8_copy_97 rfl ?_
              refine aw_iret rfl dX8_copy_100 ?_
              have fK : ¬ cpK (a 84) (nI sn) p (nI tn) q m := by
                unfold cpK
                rw [fsn, ftn]
                exact fun K => K.2.2.2.1 hc4
              exact hq _ _ _ (by simp [cpV, cpR, cI, hw1, hw2, hc3, hc4, fsn, ftn, esr, etr, fK]) (by simp [cpV, cpR, cI, hw1, hw2, hc3, hc4, fsn, ftn, esr, etr, fK]) (fun _ _ _ => rfl) F am_fp0
            · refine aw_iload (npc := 67) rfl dX8_copy_65 rfl ?_
              refine aw_if_lt (npc := 70) (tgt := 97) dX8_copy_67 rfl (by decide) (fun hc5 => ?_) (fun hc5 => ?_)
              · refine aw_ldcw (npc := 100) kc_X8_259 dX8_copy_97 rfl ?_
                refine aw_iret rfl dX8_copy_100 ?_
                have fK : ¬ cpK (a 84) (nI sn) p (nI tn) q m := by
                  unfold cpK
                  rw [fsn, ftn]
                  exact fun K => K.1.1 hc5
                exact hq _ _ _ (by simp [cpV, cpR, cI, hw1, hw2, hc3, hc4, hc5, fsn, ftn, esr, etr, fK]) (by simp [cpV, cpR, cI, hw1, hw2, hc3, hc4, hc5, fsn, ftn, esr, etr, fK]) (fun _ _ _ => rfl) F am_fp0
              · refine aw_iload_n (npc := 71) rfl dX8_copy_70 rfl ?_
                refine aw_aload_n (npc := 72) rfl dX8_copy_71 rfl ?_
                refine aw_get (npc := 75) dX8_copy_72 rfl kf_X8_58 F.1 rfl ?_
                refine aw_iload_n (npc := 76) rfl dX8_copy_75 rfl ?_
                refine aw_iald (npc := 77) (x := (a 84) sn) (j := sn) dX8_copy_76 rfl F.2.2.2.2.2.2.2.2.2.2.2.2.2.2.2.1 (am_ix_nI (by omega)) (tl_at (by omega)) ?_
                refine aw_iload (npc := 79) rfl dX8_copy_77 rfl ?_
                refine aw_isub (npc := 80) dX8_copy_79 rfl ?_
                refine aw_icmp_gt (npc := 83) (tgt := 97) dX8_copy_80 rfl (by decide) (fun hc6 => ?_) (fun hc6 => ?_)
                · refine aw_ldcw (npc := 100) kc_X8_259 dX8_copy_97 rfl ?_
                  refine aw_iret rfl dX8_copy_100 ?_
                  have fK : ¬ cpK (a 84) (nI sn) p (nI tn) q m := by
                    unfold cpK
                    rw [fsn, ftn]
                    exact fun K => K.2.1.2 hc6
                  exact hq _ _ _ (by simp [cpV, cpR, cI, hw1, hw2, hc3, hc4, hc5, hc6, fsn, ftn, esr, etr, fK]) (by simp [cpV, cpR, cI, hw1, hw2, hc3, hc4, hc5, hc6, fsn, ftn, esr, etr, fK]) (fun _ _ _ => rfl) F am_fp0
                · refine aw_iload (npc := 85) rfl dX8_copy_83 rfl ?_
                  refine aw_aload_n (npc := 86) rfl dX8_copy_85 rfl ?_
                  refine aw_get (npc := 89) dX8_copy_86 rfl kf_X8_58 F.1 rfl ?_
                  refine aw_iload_n (npc := 90) rfl dX8_copy_89 rfl ?_
                  refine aw_iald (npc := 91) (x := (a 84) tn) (j := tn) dX8_copy_90 rfl F.2.2.2.2.2.2.2.2.2.2.2.2.2.2.2.1 (am_ix_nI (by omega)) (tl_at (by omega)) ?_
                  refine aw_iload (npc := 93) rfl dX8_copy_91 rfl ?_
                  refine aw_isub (npc := 94) dX8_copy_93 rfl ?_
                  refine aw_icmp_le (npc := 97) (tgt := 101) dX8_copy_94 rfl (by decide) (fun hc7 => ?_) (fun hc7 => ?_)
                  · have fK : cpK (a 84) (nI sn) p (nI tn) q m := by
                      unfold cpK
                      rw [fsn, ftn]
                      have hA := cpy_nat hz9 hc3 hc5 (ez9 ▸ hc6)
                      have hB := cpy_nat hz8 hc4 hc5 (ez8 ▸ Int32.not_lt.mpr hc7)
                      obtain ⟨pn, mn, e1, e2, e3⟩ := hA
                      obtain ⟨qn, mm, e4, e5, e6⟩ := hB
                      refine ⟨?_, ⟨hc3, hc6⟩, ?_, ⟨hc4, Int32.not_lt.mpr hc7⟩⟩
                      · rw [e2, ez9]; exact wi_n0 (by omega) (by omega)
                      · rw [e5, ez8]; exact wi_n0 (by omega) (by omega)
                    obtain ⟨pn, mn, epn, emn, hpm⟩ := cpy_nat hz9 hc3 hc5 (ez9 ▸ hc6)
                    obtain ⟨qn, mm, eqn, emm, hqm⟩ := cpy_nat hz8 hc4 hc5 (ez8 ▸ Int32.not_lt.mpr hc7)
                    obtain rfl : mm = mn := by have z := congrArg Int32.toInt (emm.symm.trans emn); rw [nI_toInt (by omega), nI_toInt (by omega)] at z; omega
                    subst epn
                    subst eqn
                    subst emn
                    have fpn : fN (nI pn) = pn := fN_nI (by omega)
                    have fqn : fN (nI qn) = qn := fN_nI (by omega)
                    have fmn : fN (nI mm) = mm := fN_nI (by omega)
                    refine aw_iconst (npc := 102) (v := 0) (by decide) dX8_copy_101 rfl ?_
                    refine aw_istore (npc := 104) (L' := [some (.ref 69), some (.int (nI sn)), some (.int (nI pn)), some (.int (nI tn)), some (.int (nI qn)), some (.int (nI mm)), some (.int 0)]) dX8_copy_102 rfl (by decide) rfl rfl ?_
                    refine aw_locs (L' := [some (.ref 69), some (.int (nI sn)), some (.int (nI pn)), some (.int (nI tn)), some (.int (nI qn)), some (.int (nI mm)), some (.int (nI 0))]) rfl ?_
                    refine m_copy1 (a0 := a) (by omega) (by omega) (by omega) (by omega) mm 0 (by omega) _ _ F (fun j hj => by omega) (fun _ _ => rfl) (fun a9 h9 M9 e9 c9 f9 => ?_)
                    refine aw_iconst (npc := 139) (v := 0) (by decide) dX8_copy_138 rfl ?_
                    refine aw_istore (npc := 141) (L' := [some (.ref 69), some (.int (nI sn)), some (.int (nI pn)), some (.int (nI tn)), some (.int (nI qn)), some (.int (nI mm)), some (.int 0)]) dX8_copy_139 rfl (by decide) rfl rfl ?_
                    refine aw_locs (L' := [some (.ref 69), some (.int (nI sn)), some (.int (nI pn)), some (.int (nI tn)), some (.int (nI qn)), some (.int (nI mm)), some (.int (nI 0))]) rfl ?_
                    refine m_copy2 (a0 := a9) (by omega) (by omega) (by omega) (by omega) mm 0 (by omega) _ _ M9 cpD_0.symm (fun _ _ => rfl) (fun b9 k9 M8 e8 c8 f8 => ?_)
                    have e85 : b9 85 = cpC (a 85) sn pn tn qn mm := e8.trans ((congrArg (fun z => cpD z (a9 90) tn qn mm) (c9 85 (by decide))).trans (cpD_C e9))
                    have a8 : ∀ c, c ≠ 85 → c ≠ 90 → b9 c = a c := fun c h1 h2 => (c8 c h1).trans (c9 c h2)
                    refine aw_iload (npc := 178) rfl dX8_copy_176 rfl ?_
                    refine aw_iret rfl dX8_copy_178 ?_
                    exact hq _ _ _ (by simp [cpV, cpR, cI, hw1, hw2, hc3, hc4, hc5, hc6, hc7, fsn, ftn, fpn, fqn, fmn, esr, etr, fK]) (by rw [e85]; simp [cpV, cpR, cI, hw1, hw2, hc3, hc4, hc5, hc6, hc7, fsn, ftn, fpn, fqn, fmn, esr, etr, fK]) a8 M8 (am_fpT f8 (am_fpT f9 am_fp0))
                  · refine aw_ldcw (npc := 100) kc_X8_259 dX8_copy_97 rfl ?_
                    refine aw_iret rfl dX8_copy_100 ?_
                    have fK : ¬ cpK (a 84) (nI sn) p (nI tn) q m := by
                      unfold cpK
                      rw [fsn, ftn]
                      exact fun K => K.2.2.2.2 (Int32.not_le.mp hc7)
                    exact hq _ _ _ (by simp [cpV, cpR, cI, hw1, hw2, hc3, hc4, hc5, hc6, hc7, fsn, ftn, esr, etr, fK]) (by simp [cpV, cpR, cI, hw1, hw2, hc3, hc4, hc5, hc6, hc7, fsn, ftn, esr, etr, fK]) (fun _ _ _ => rfl) F am_fp0
        · refine aw_top (y := 1) etr ?_
          refine aw_if_ge (npc := 35) (tgt := 38) dX8_copy_32 rfl (by decide) (fun _ => ?_) (fun hc => absurd (by decide) hc)
          refine aw_aload_n (npc := 39) rfl dX8_copy_38 rfl ?_
          refine aw_get (npc := 42) dX8_copy_39 rfl kf_X8_55 F.1 rfl ?_
          refine aw_iload_n (npc := 43) rfl dX8_copy_42 rfl ?_
          refine aw_iald (npc := 44) (x := (a 83) sn) (j := sn) dX8_copy_43 rfl F.2.2.2.2.2.2.2.2.2.2.2.2.2.2.1 (am_ix_nI (by omega)) (tl_at (by omega)) ?_
          refine aw_top (y := 0) esr ?_
          refine aw_aload_n (npc := 45) rfl dX8_copy_44 rfl ?_
          refine aw_get (npc := 48) dX8_copy_45 rfl kf_X8_55 F.1 rfl ?_
          refine aw_iload_n (npc := 49) rfl dX8_copy_48 rfl ?_
          refine aw_iald (npc := 50) (x := (a 83) tn) (j := tn) dX8_copy_49 rfl F.2.2.2.2.2.2.2.2.2.2.2.2.2.2.1 (am_ix_nI (by omega)) (tl_at (by omega)) ?_
          refine aw_top (y := 1) etr ?_
          refine aw_icmp_eq (npc := 53) (tgt := 56) dX8_copy_50 rfl (by decide) (fun hc => absurd hc (by decide)) (fun _ => ?_)
          refine aw_ldc (npc := 55) kc_X8_134 dX8_copy_53 rfl ?_
          refine aw_iret rfl dX8_copy_55 ?_
          exact hq _ _ _ (by simp [cpV, cpR, cI, hw1, hw2, fsn, ftn, esr, etr]) (by simp [cpV, cpR, cI, hw1, hw2, fsn, ftn, esr, etr]) (fun _ _ _ => rfl) F am_fp0
      · refine aw_top (y := 1) esr ?_
        refine aw_if_lt (npc := 26) (tgt := 35) dX8_copy_23 rfl (by decide) (fun hc => absurd hc (by decide)) (fun _ => ?_)
        refine aw_aload_n (npc := 27) rfl dX8_copy_26 rfl ?_
        refine aw_get (npc := 30) dX8_copy_27 rfl kf_X8_55 F.1 rfl ?_
        refine aw_iload_n (npc := 31) rfl dX8_copy_30 rfl ?_
        refine aw_iald (npc := 32) (x := (a 83) tn) (j := tn) dX8_copy_31 rfl F.2.2.2.2.2.2.2.2.2.2.2.2.2.2.1 (am_ix_nI (by omega)) (tl_at (by omega)) ?_
        rcases wi_cm1_1 htr with etr | etr | etr
        · refine aw_top (y := -1) etr ?_
          refine aw_if_ge (npc := 35) (tgt := 38) dX8_copy_32 rfl (by decide) (fun hc => absurd hc (by decide)) (fun _ => ?_)
          refine aw_ldc (npc := 37) kc_X8_187 dX8_copy_35 rfl ?_
          refine aw_iret rfl dX8_copy_37 ?_
          exact hq _ _ _ (by simp [cpV, cpR, cI, hw1, hw2, fsn, ftn, esr, etr]) (by simp [cpV, cpR, cI, hw1, hw2, fsn, ftn, esr, etr]) (fun _ _ _ => rfl) F am_fp0
        · refine aw_top (y := 0) etr ?_
          refine aw_if_ge (npc := 35) (tgt := 38) dX8_copy_32 rfl (by decide) (fun _ => ?_) (fun hc => absurd (by decide) hc)
          refine aw_aload_n (npc := 39) rfl dX8_copy_38 rfl ?_
          refine aw_get (npc := 42) dX8_copy_39 rfl kf_X8_55 F.1 rfl ?_
          refine aw_iload_n (npc := 43) rfl dX8_copy_42 rfl ?_
          refine aw_iald (npc := 44) (x := (a 83) sn) (j := sn) dX8_copy_43 rfl F.2.2.2.2.2.2.2.2.2.2.2.2.2.2.1 (am_ix_nI (by omega)) (tl_at (by omega)) ?_
          refine aw_top (y := 1) esr ?_
          refine aw_aload_n (npc := 45) rfl dX8_copy_44 rfl ?_
          refine aw_get (npc := 48) dX8_copy_45 rfl kf_X8_55 F.1 rfl ?_
          refine aw_iload_n (npc := 49) rfl dX8_copy_48 rfl ?_
          refine aw_iald (npc := 50) (x := (a 83) tn) (j := tn) dX8_copy_49 rfl F.2.2.2.2.2.2.2.2.2.2.2.2.2.2.1 (am_ix_nI (by omega)) (tl_at (by omega)) ?_
          refine aw_top (y := 0) etr ?_
          refine aw_icmp_eq (npc := 53) (tgt := 56) dX8_copy_50 rfl (by decide) (fun hc => absurd hc (by decide)) (fun _ => ?_)
          refine aw_ldc (npc := 55) kc_X8_134 dX8_copy_53 rfl ?_
          refine aw_iret rfl dX8_copy_55 ?_
          exact hq _ _ _ (by simp [cpV, cpR, cI, hw1, hw2, fsn, ftn, esr, etr]) (by simp [cpV, cpR, cI, hw1, hw2, fsn, ftn, esr, etr]) (fun _ _ _ => rfl) F am_fp0
        · refine aw_top (y := 1) etr ?_
          refine aw_if_ge (npc := 35) (tgt := 38) dX8_copy_32 rfl (by decide) (fun _ => ?_) (fun hc => absurd (by decide) hc)
          refine aw_aload_n (npc := 39) rfl dX8_copy_38 rfl ?_
          refine aw_get (npc := 42) dX8_copy_39 rfl kf_X8_55 F.1 rfl ?_
          refine aw_iload_n (npc := 43) rfl dX8_copy_42 rfl ?_
          refine aw_iald (npc := 44) (x := (a 83) sn) (j := sn) dX8_copy_43 rfl F.2.2.2.2.2.2.2.2.2.2.2.2.2.2.1 (am_ix_nI (by omega)) (tl_at (by omega)) ?_
          refine aw_top (y := 1) esr ?_
          refine aw_aload_n (npc := 45) rfl dX8_copy_44 rfl ?_
          refine aw_get (npc := 48) dX8_copy_45 rfl kf_X8_55 F.1 rfl ?_
          refine aw_iload_n (npc := 49) rfl dX8_copy_48 rfl ?_
          refine aw_iald (npc := 50) (x := (a 83) tn) (j := tn) dX8_copy_49 rfl F.2.2.2.2.2.2.2.2.2.2.2.2.2.2.1 (am_ix_nI (by omega)) (tl_at (by omega)) ?_
          refine aw_top (y := 1) etr ?_
          refine aw_icmp_eq (npc := 53) (tgt := 56) dX8_copy_50 rfl (by decide) (fun _ => ?_) (fun hc => absurd (by decide) hc)
          refine aw_iload_n (npc := 57) rfl dX8_copy_56 rfl ?_
          refine aw_if_lt (npc := 60) (tgt := 97) dX8_copy_57 rfl (by decide) (fun hc8 => ?_) (fun hc8 => ?_)
          · refine aw_ldcw (npc := 100) kc_X8_259 dX8_copy_97 rfl ?_
            refine aw_iret rfl dX8_copy_100 ?_
            have fK : ¬ cpK (a 84) (nI sn) p (nI tn) q m := by
              unfold cpK
              rw [fsn, ftn]
              exact fun K => K.2.1.1 hc8
            exact hq _ _ _ (by simp [cpV, cpR, cI, hw1, hw2, hc8, fsn, ftn, esr, etr, fK]) (by simp [cpV, cpR, cI, hw1, hw2, hc8, fsn, ftn, esr, etr, fK]) (fun _ _ _ => rfl) F am_fp0
          · refine aw_iload (npc := 62) rfl dX8_copy_60 rfl ?_
            refine aw_if_lt (npc := 65) (tgt := 97) dX8_copy_62 rfl (by decide) (fun hc9 => ?_) (fun hc9 => ?_)
            · refine aw_ldcw (npc := 100) kc_X8_259 dX8_copy_97 rfl ?_
              refine aw_iret rfl dX8_copy_100 ?_
              have fK : ¬ cpK (a 84) (nI sn) p (nI tn) q m := by
                unfold cpK
                rw [fsn, ftn]
                exact fun K => K.2.2.2.1 hc9
              exact hq _ _ _ (by simp [cpV, cpR, cI, hw1, hw2, hc8, hc9, fsn, ftn, esr, etr, fK]) (by simp [cpV, cpR, cI, hw1, hw2, hc8, hc9, fsn, ftn, esr, etr, fK]) (fun _ _ _ => rfl) F am_fp0
            · refine aw_iload (npc := 67) rfl dX8_copy_65 rfl ?_
              refine aw_if_lt (npc := 70) (tgt := 97) dX8_copy_67 rfl (by decide) (fun hc10 => ?_) (fun hc10 => ?_)
              · refine aw_ldcw (npc := 100) kc_X8_259 dX8_copy_97 rfl ?_
                refine aw_iret rfl dX8_copy_100 ?_
                have fK : ¬ cpK (a 84) (nI sn) p (nI tn) q m := by
                  unfold cpK
                  rw [fsn, ftn]
                  exact fun K => K.1.1 hc10
                exact hq _ _ _ (by simp [cpV, cpR, cI, hw1, hw2, hc8, hc9, hc10, fsn, ftn, esr, etr, fK]) (by simp [cpV, cpR, cI, hw1, hw2, hc8, hc9, hc10, fsn, ftn, esr, etr, fK]) (fun _ _ _ => rfl) F am_fp0
              · refine aw_iload_n (npc := 71) rfl dX8_copy_70 rfl ?_
                refine aw_aload_n (npc := 72) rfl dX8_copy_71 rfl ?_
                refine aw_get (npc := 75) dX8_copy_72 rfl kf_X8_58 F.1 rfl ?_
                refine aw_iload_n (npc := 76) rfl dX8_copy_75 rfl ?_
                refine aw_iald (npc := 77) (x := (a 84) sn) (j := sn) dX8_copy_76 rfl F.2.2.2.2.2.2.2.2.2.2.2.2.2.2.2.1 (am_ix_nI (by omega)) (tl_at (by omega)) ?_
                refine aw_iload (npc := 79) rfl dX8_copy_77 rfl ?_
                refine aw_isub (npc := 80) dX8_copy_79 rfl ?_
                refine aw_icmp_gt (npc := 83) (tgt := 97) dX8_copy_80 rfl (by decide) (fun hc11 => ?_) (fun hc11 => ?_)
                · refine aw_ldcw (npc := 100) kc_X8_259 dX8_copy_97 rfl ?_
                  refine aw_iret rfl dX8_copy_100 ?_
                  have fK : ¬ cpK (a 84) (nI sn) p (nI tn) q m := by
                    unfold cpK
                    rw [fsn, ftn]
                    exact fun K => K.2.1.2 hc11
                  exact hq _ _ _ (by simp [cpV, cpR, cI, hw1, hw2, hc8, hc9, hc10, hc11, fsn, ftn, esr, etr, fK]) (by simp [cpV, cpR, cI, hw1, hw2, hc8, hc9, hc10, hc11, fsn, ftn, esr, etr, fK]) (fun _ _ _ => rfl) F am_fp0
                · refine aw_iload (npc := 85) rfl dX8_copy_83 rfl ?_
                  refine aw_aload_n (npc := 86) rfl dX8_copy_85 rfl ?_
                  refine aw_get (npc := 89) dX8_copy_86 rfl kf_X8_58 F.1 rfl ?_
                  refine aw_iload_n (npc := 90) rfl dX8_copy_89 rfl ?_
                  refine aw_iald (npc := 91) (x := (a 84) tn) (j := tn) dX8_copy_90 rfl F.2.2.2.2.2.2.2.2.2.2.2.2.2.2.2.1 (am_ix_nI (by omega)) (tl_at (by omega)) ?_
                  refine aw_iload (npc := 93) rfl dX8_copy_91 rfl ?_
                  refine aw_isub (npc := 94) dX8_copy_93 rfl ?_
                  refine aw_icmp_le (npc := 97) (tgt := 101) dX8_copy_94 rfl (by decide) (fun hc12 => ?_) (fun hc12 => ?_)
                  · have fK : cpK (a 84) (nI sn) p (nI tn) q m := by
                      unfold cpK
                      rw [fsn, ftn]
                      have hA := cpy_nat hz9 hc8 hc10 (ez9 ▸ hc11)
                      have hB := cpy_nat hz8 hc9 hc10 (ez8 ▸ Int32.not_lt.mpr hc12)
                      obtain ⟨pn, mn, e1, e2, e3⟩ := hA
                      obtain ⟨qn, mm, e4, e5, e6⟩ := hB
                      refine ⟨?_, ⟨hc8, hc11⟩, ?_, ⟨hc9, Int32.not_lt.mpr hc12⟩⟩
                      · rw [e2, ez9]; exact wi_n0 (by omega) (by omega)
                      · rw [e5, ez8]; exact wi_n0 (by omega) (by omega)
                    obtain ⟨pn, mn, epn, emn, hpm⟩ := cpy_nat hz9 hc8 hc10 (ez9 ▸ hc11)
                    obtain ⟨qn, mm, eqn, emm, hqm⟩ := cpy_nat hz8 hc9 hc10 (ez8 ▸ Int32.not_lt.mpr hc12)
                    obtain rfl : mm = mn := by have z := congrArg Int32.toInt (emm.symm.trans emn); rw [nI_toInt (by omega), nI_toInt (by omega)] at z; omega
                    subst epn
                    subst eqn
                    subst emn
                    have fpn : fN (nI pn) = pn := fN_nI (by omega)
                    have fqn : fN (nI qn) = qn := fN_nI (by omega)
                    have fmn : fN (nI mm) = mm := fN_nI (by omega)
                    refine aw_iconst (npc := 102) (v := 0) (by decide) dX8_copy_101 rfl ?_
                    refine aw_istore (npc := 104) (L' := [some (.ref 69), some (.int (nI sn)), some (.int (nI pn)), some (.int (nI tn)), some (.int (nI qn)), some (.int (nI mm)), some (.int 0)]) dX8_copy_102 rfl (by decide) rfl rfl ?_
                    refine aw_locs (L' := [some (.ref 69), some (.int (nI sn)), some (.int (nI pn)), some (.int (nI tn)), some (.int (nI qn)), some (.int (nI mm)), some (.int (nI 0))]) rfl ?_
                    refine m_copy1 (a0 := a) (by omega) (by omega) (by omega) (by omega) mm 0 (by omega) _ _ F (fun j hj => by omega) (fun _ _ => rfl) (fun a9 h9 M9 e9 c9 f9 => ?_)
                    refine aw_iconst (npc := 139) (v := 0) (by decide) dX8_copy_138 rfl ?_
                    refine aw_istore (npc := 141) (L' := [some (.ref 69), some (.int (nI sn)), some (.int (nI pn)), some (.int (nI tn)), some (.int (nI qn)), some (.int (nI mm)), some (.int 0)]) dX8_copy_139 rfl (by decide) rfl rfl ?_
                    refine aw_locs (L' := [some (.ref 69), some (.int (nI sn)), some (.int (nI pn)), some (.int (nI tn)), some (.int (nI qn)), some (.int (nI mm)), some (.int (nI 0))]) rfl ?_
                    refine m_copy2 (a0 := a9) (by omega) (by omega) (by omega) (by omega) mm 0 (by omega) _ _ M9 cpD_0.symm (fun _ _ => rfl) (fun b9 k9 M8 e8 c8 f8 => ?_)
                    have e85 : b9 85 = cpC (a 85) sn pn tn qn mm := e8.trans ((congrArg (fun z => cpD z (a9 90) tn qn mm) (c9 85 (by decide))).trans (cpD_C e9))
                    have a8 : ∀ c, c ≠ 85 → c ≠ 90 → b9 c = a c := fun c h1 h2 => (c8 c h1).trans (c9 c h2)
                    refine aw_iload (npc := 178) rfl dX8_copy_176 rfl ?_
                    refine aw_iret rfl dX8_copy_178 ?_
                    exact hq _ _ _ (by simp [cpV, cpR, cI, hw1, hw2, hc8, hc9, hc10, hc11, hc12, fsn, ftn, fpn, fqn, fmn, esr, etr, fK]) (by rw [e85]; simp [cpV, cpR, cI, hw1, hw2, hc8, hc9, hc10, hc11, hc12, fsn, ftn, fpn, fqn, fmn, esr, etr, fK]) a8 M8 (am_fpT f8 (am_fpT f9 am_fp0))
                  · refine aw_ldcw (npc := 100) kc_X8_259 dX8_copy_97 rfl ?_
                    refine aw_iret rfl dX8_copy_100 ?_
                    have fK : ¬ cpK (a 84) (nI sn) p (nI tn) q m := by
                      unfold cpK
                      rw [fsn, ftn]
                      exact fun K => K.2.2.2.2 (Int32.not_le.mp hc12)
                    exact hq _ _ _ (by simp [cpV, cpR, cI, hw1, hw2, hc8, hc9, hc10, hc11, hc12, fsn, ftn, esr, etr, fK]) (by simp [cpV, cpR, cI, hw1, hw2, hc8, hc9, hc10, hc11, hc12, fsn, ftn, esr, etr, fK]) (fun _ _ _ => rfl) F am_fp0
    · refine aw_re (S' := [.int 0]) rfl ?_
      refine aw_if_ne (npc := 14) (tgt := 17) dX8_copy_11 rfl (by decide) (fun hc => absurd (by decide) hc) (fun _ => ?_)
      refine aw_ldc (npc := 16) kc_X8_91 dX8_copy_14 rfl ?_
      refine aw_iret rfl dX8_copy_16 ?_
      exact hq _ _ _ (by simp [cpV, cpR, cI, hw1, hw2, fsn]) (by simp [cpV, cpR, cI, hw1, hw2, fsn]) (fun _ _ _ => rfl) F am_fp0
  · refine aw_re (S' := [.int 0]) rfl ?_
    refine aw_if_eq (npc := 7) (tgt := 14) dX8_copy_4 rfl (by decide) (fun _ => ?_) (fun hc => absurd (by decide) hc)
    refine aw_ldc (npc := 16) kc_X8_91 dX8_copy_14 rfl ?_
    refine aw_iret rfl dX8_copy_16 ?_
    exact hq _ _ _ (by simp [cpV, cpR, cI, hw1]) (by simp [cpV, cpR, cI, hw1]) (fun _ _ _ => rfl) F am_fp0
noncomputable def laB (N : Nat → Int32) (s t k : Int32) : Prop := wi s 0 4 ∧ wi t 0 3 ∧ (t = 1 → wi k 0 (N 1 - 1)) ∧ (t = 2 → wi k 0 3)
noncomputable def laK (N sr : Nat → Int32) (s t k : Int32) : Prop := laB N s t k ∧ (t = 2 → ¬ sr (fN k) = -1)
noncomputable def laV (N sr th : Nat → Int32) (s t k : Int32) : Int32 := cI (laB N s t k) (cI (t = 2 ∧ sr (fN k) = -1) (-1000000011) (th (fN s))) (-1000000001)
noncomputable def laT (N sr : Nat → Int32) (s t k : Int32) (th : Nat → Int32) : Nat → Int32 := cI (laK N sr s t k) (upd th (fN s) t) th
noncomputable def laH (N sr cl : Nat → Int32) (s t k : Int32) (hc : Nat → Int32) : Nat → Int32 := cI (laK N sr s t k ∧ t = 2) (cpS hc cl (fN s) (fN k)) hc
def laU (p : Prop) (f g : Nat → Int32) (s : Nat) (v : Int32) : Prop := (p → g = upd f s v) ∧ (¬ p → g = f)
set_option maxHeartbeats 4000000 in
set_option maxRecDepth 100000 in
theorem C_lay {X : List Int32} {d rc rs n : Nat} {Q : am_Q} {h : am_H} {N : Nat → Int32} {tx : List Value} {lk mv : Nat → Int32} {ik wc : Int32} {fr c : Nat} {s : Int32} {t : Int32} {k : Int32} {sr sz cl : Nat → Int32} {th kd pr nu ss zs hc : Nat → Int32} (O : OB ik wc h) (F : QR 1 N tx lk mv h) (Rw : RW sr sz cl h) (Sl : SL th kd pr nu ss zs hc h) (hR : RG N fr c) (hI : RI sr sz) (hq : ∀ v9 th9 kd9 pr9 nu9 ss9 zs9 hc9 h9, v9 = laV N sr th s t k → th9 = laT N sr s t k th → laU (laK N sr s t k ∧ t = 1) kd kd9 (fN s) (N (22 + 5 * fN k)) → laU (laK N sr s t k ∧ t = 1) pr pr9 (fN s) (N (24 + 5 * fN k)) → laU (laK N sr s t k ∧ ¬ t = 1 ∧ ¬ t = 2) nu nu9 (fN s) k → laU (laK N sr s t k ∧ t = 2) ss ss9 (fN s) (sr (fN k)) → laU (laK N sr s t k ∧ t = 2) zs zs9 (fN s) (sz (fN k)) → hc9 = laH N sr cl s t k hc → SL th9 kd9 pr9 nu9 ss9 zs9 hc9 h9 → am_fp (fun k => k < 54 ∨ 69 ≤ k) h9 h → Q (some (.int v9)) n h9) : AW X mX7_lay (d + 12) rc rs 0 [some (.ref 0), some (.int s), some (.int t), some (.int k), none, none] [] n h Q := by
  have h8r := hR.2.1
  have h14r := hR.2.2.2.1
  refine aw_iload_n (npc := 1) rfl dX7_lay_0 rfl ?_
  refine aw_callS (npc := 4) (N := mX7_isSlot) (mc := 0) (ms := 0) (A := [.int s]) (S := []) (L0 := [some (.int s)]) dX7_lay_1 rfl km_X7_isSlot kk_X7_299 rfl ⟨rfl, by decide⟩ rfl (Nat.le_of_ble_eq_true rfl) (Nat.zero_add _) (Nat.zero_add _) rfl ?_
  refine c_X7_isSlot (fun hw1 => ?_) (fun hw1 => ?_)
  · obtain ⟨sn, hsn, esn⟩ := wi_nI (H := 4) (by decide) (by decide) hw1
    subst esn
    have fsn : fN (nI sn) = sn := fN_nI (by omega)
    refine aw_re (S' := [.int 1]) rfl ?_
    refine aw_if_eq (npc := 7) (tgt := 44) dX7_lay_4 rfl (by decide) (fun hc => absurd hc (by decide)) (fun _ => ?_)
    refine aw_iload_n (npc := 8) rfl dX7_lay_7 rfl ?_
    refine aw_iconst (npc := 9) (v := 0) (by decide) dX7_lay_8 rfl ?_
    refine aw_iconst (npc := 10) (v := 3) (by decide) dX7_lay_9 rfl ?_
    refine aw_callS (npc := 13) (N := mX7_within) (mc := 0) (ms := 0) (A := [.int t, .int 0, .int 3]) (S := []) (L0 := [some (.int t), some (.int 0), some (.int 3)]) dX7_lay_10 rfl km_X7_within kk_X7_74 rfl ⟨rfl, by decide⟩ rfl (Nat.le_of_ble_eq_true rfl) (Nat.zero_add _) (Nat.zero_add _) rfl ?_
    refine c_X7_within (fun hw2 => ?_) (fun hw2 => ?_)
    · rcases wi_c0_3 hw2 with rfl | rfl | rfl | rfl
      · refine aw_re (S' := [.int 1]) rfl ?_
        refine aw_if_eq (npc := 16) (tgt := 44) dX7_lay_13 rfl (by decide) (fun hc => absurd hc (by decide)) (fun _ => ?_)
        refine aw_iload_n (npc := 17) rfl dX7_lay_16 rfl ?_
        refine aw_iconst (npc := 18) (v := 1) (by decide) dX7_lay_17 rfl ?_
        refine aw_icmp_ne (npc := 21) (tgt := 32) dX7_lay_18 rfl (by decide) (fun _ => ?_) (fun hc => absurd hc (by decide))
        refine aw_iload_n (npc := 33) rfl dX7_lay_32 rfl ?_
        refine aw_iconst (npc := 34) (v := 2) (by decide) dX7_lay_33 rfl ?_
        refine aw_icmp_ne (npc := 37) (tgt := 47) dX7_lay_34 rfl (by decide) (fun _ => ?_) (fun hc => absurd hc (by decide))
        refine aw_iload_n (npc := 48) rfl dX7_lay_47 rfl ?_
        refine aw_iconst (npc := 49) (v := 2) (by decide) dX7_lay_48 rfl ?_
        refine aw_icmp_ne (npc := 52) (tgt := 67) dX7_lay_49 rfl (by decide) (fun _ => ?_) (fun hc => absurd hc (by decide))
        refine aw_aload_n (npc := 68) rfl dX7_lay_67 rfl ?_
        refine aw_get (npc := 71) dX7_lay_68 rfl kf_X7_53 O.1 rfl ?_
        refine aw_iload_n (npc := 72) rfl dX7_lay_71 rfl ?_
        refine aw_aald (npc := 73) (j := sn) dX7_lay_72 rfl (by decide) O.2.2 (am_ix_nI (by omega)) (sl_at (by omega)) ?_
        refine aw_astore (npc := 75) (L' := [some (.ref 0), some (.int (nI sn)), some (.int 0), some (.int k), some (.ref (54 + 3 * sn)), none]) dX7_lay_73 rfl (by decide) rfl rfl ?_
        refine aw_aload (npc := 77) rfl dX7_lay_75 rfl ?_
        refine aw_get (npc := 80) dX7_lay_77 rfl kf_X7_302 (Sl sn (by omega)).1 rfl ?_
        refine aw_istore (npc := 82) (L' := [some (.ref 0), some (.int (nI sn)), some (.int 0), some (.int k), some (.ref (54 + 3 * sn)), some (.int (th sn))]) dX7_lay_80 rfl (by decide) rfl rfl ?_
        refine aw_aload (npc := 84) rfl dX7_lay_82 rfl ?_
        refine aw_iload_n (npc := 85) rfl dX7_lay_84 rfl ?_
        refine aw_put (npc := 88) dX7_lay_85 rfl kf_X7_302 (Sl sn (by omega)).1 (Nat.le_of_ble_eq_true rfl) (am_ok_int _) rfl ?_
        have Sl3 := sl_th (s := sn) (v := 0) Sl
        have O4 := ob_out (a := 54 + 3 * sn) (c := .inr (3, (slO th kd pr nu sn).set 0 (.int 0))) (by omega) O
        have F5 := qr_out (a := 54 + 3 * sn) (c := .inr (3, (slO th kd pr nu sn).set 0 (.int 0))) (by omega) F
        have Rw6 := rw_out (a := 54 + 3 * sn) (c := .inr (3, (slO th kd pr nu sn).set 0 (.int 0))) (by omega) Rw
        refine aw_iload_n (npc := 89) rfl dX7_lay_88 rfl ?_
        refine aw_iconst (npc := 90) (v := 1) (by decide) dX7_lay_89 rfl ?_
        refine aw_icmp_ne (npc := 93) (tgt := 124) dX7_lay_90 rfl (by decide) (fun _ => ?_) (fun hc => absurd hc (by decide))
        refine aw_iload_n (npc := 125) rfl dX7_lay_124 rfl ?_
        refine aw_iconst (npc := 126) (v := 2) (by decide) dX7_lay_125 rfl ?_
        refine aw_icmp_ne (npc := 129) (tgt := 146) dX7_lay_126 rfl (by decide) (fun _ => ?_) (fun hc => absurd hc (by decide))
        refine aw_aload (npc := 148) rfl dX7_lay_146 rfl ?_
        refine aw_iload_n (npc := 149) rfl dX7_lay_148 rfl ?_
        refine aw_put (npc := 152) dX7_lay_149 rfl kf_X7_318 (Sl3 sn (by omega)).1 (Nat.le_of_ble_eq_true rfl) (am_ok_int _) rfl ?_
        have Sl7 := sl_nu (s := sn) (v := k) Sl3
        have O8 := ob_out (a := 54 + 3 * sn) (c := .inr (3, (slO (upd th sn 0) kd pr nu sn).set 3 (.int k))) (by omega) O4
        have F9 := qr_out (a := 54 + 3 * sn) (c := .inr (3, (slO (upd th sn 0) kd pr nu sn).set 3 (.int k))) (by omega) F5
        have Rw10 := rw_out (a := 54 + 3 * sn) (c := .inr (3, (slO (upd th sn 0) kd pr nu sn).set 3 (.int k))) (by omega) Rw6
        refine aw_iload (npc := 154) rfl dX7_lay_152 rfl ?_
        refine aw_iret rfl dX7_lay_154 ?_
        exact hq _ _ _ _ _ _ _ _ _ (by simp [laB, laK, laV, laT, laH, laU, cI, hw1, hw2, fsn]) (by simp [laB, laK, laV, laT, laH, laU, cI, hw1, hw2, fsn]) (by simp [laB, laK, laV, laT, laH, laU, cI, hw1, hw2, fsn]) (by simp [laB, laK, laV, laT, laH, laU, cI, hw1, hw2, fsn]) (by simp [laB, laK, laV, laT, laH, laU, cI, hw1, hw2, fsn]) (by simp [laB, laK, laV, laT, laH, laU, cI, hw1, hw2, fsn]) (by simp [laB, laK, laV, laT, laH, laU, cI, hw1, hw2, fsn]) (by simp [laB, laK, laV, laT, laH, laU, cI, hw1, hw2, fsn]) Sl7 (am_fpU (show ¬ ((54 + 3 * sn) < 54 ∨ 69 ≤ (54 + 3 * sn)) by omega) (am_fpU (show ¬ ((54 + 3 * sn) < 54 ∨ 69 ≤ (54 + 3 * sn)) by omega) am_fp0))
      · refine aw_re (S' := [.int 1]) rfl ?_
        refine aw_if_eq (npc := 16) (tgt := 44) dX7_lay_13 rfl (by decide) (fun hc => absurd hc (by decide)) (fun _ => ?_)
        refine aw_iload_n (npc := 17) rfl dX7_lay_16 rfl ?_
        refine aw_iconst (npc := 18) (v := 1) (by decide) dX7_lay_17 rfl ?_
        refine aw_icmp_ne (npc := 21) (tgt := 32) dX7_lay_18 rfl (by decide) (fun hc => absurd (by decide) hc) (fun _ => ?_)
        refine aw_aload_n (npc := 22) rfl dX7_lay_21 rfl ?_
        refine aw_get (npc := 25) dX7_lay_22 rfl kf_X7_10 O.1 rfl ?_
        refine aw_iload_n (npc := 26) rfl dX7_lay_25 rfl ?_
        refine aw_callV (npc := 29) (N := mX0_isFriend) (b := 1) (mc := 0) (ms := 0) (A := [.int k]) (S := []) (L0 := [some (.ref 1), some (.int k)]) dX7_lay_26 rfl km_X0_isFriend kk_X7_87 F.1 ⟨by decide, rfl⟩ rfl ⟨rfl, by decide⟩ rfl (Nat.le_of_ble_eq_true rfl) (Nat.zero_add _) (Nat.zero_add _) rfl ?_
        refine g_isFriend F (fun hw11 => ?_) (fun hw11 => ?_)
        · obtain ⟨kn, hkn, ekn⟩ := wi_idx hR.1 (by have z := hR.2.1; omega) hw11
          subst ekn
          have h8kn : kn < 8 := by have z := hR.2.1; omega
          have fkn : fN (nI kn) = kn := fN_nI (by omega)
          refine aw_re (S' := [.int 1]) rfl ?_
          refine aw_if_eq (npc := 32) (tgt := 44) dX7_lay_29 rfl (by decide) (fun hc => absurd hc (by decide)) (fun _ => ?_)
          refine aw_iload_n (npc := 33) rfl dX7_lay_32 rfl ?_
          refine aw_iconst (npc := 34) (v := 2) (by decide) dX7_lay_33 rfl ?_
          refine aw_icmp_ne (npc := 37) (tgt := 47) dX7_lay_34 rfl (by decide) (fun _ => ?_) (fun hc => absurd hc (by decide))
          refine aw_iload_n (npc := 48) rfl dX7_lay_47 rfl ?_
          refine aw_iconst (npc := 49) (v := 2) (by decide) dX7_lay_48 rfl ?_
          refine aw_icmp_ne (npc := 52) (tgt := 67) dX7_lay_49 rfl (by decide) (fun _ => ?_) (fun hc => absurd hc (by decide))
          refine aw_aload_n (npc := 68) rfl dX7_lay_67 rfl ?_
          refine aw_get (npc := 71) dX7_lay_68 rfl kf_X7_53 O.1 rfl ?_
          refine aw_iload_n (npc := 72) rfl dX7_lay_71 rfl ?_
          refine aw_aald (npc := 73) (j := sn) dX7_lay_72 rfl (by decide) O.2.2 (am_ix_nI (by omega)) (sl_at (by omega)) ?_
          refine aw_astore (npc := 75) (L' := [some (.ref 0), some (.int (nI sn)), some (.int 1), some (.int (nI kn)), some (.ref (54 + 3 * sn)), none]) dX7_lay_73 rfl (by decide) rfl rfl ?_
          refine aw_aload (npc := 77) rfl dX7_lay_75 rfl ?_
          refine aw_get (npc := 80) dX7_lay_77 rfl kf_X7_302 (Sl sn (by omega)).1 rfl ?_
          refine aw_istore (npc := 82) (L' := [some (.ref 0), some (.int (nI sn)), some (.int 1), some (.int (nI kn)), some (.ref (54 + 3 * sn)), some (.int (th sn))]) dX7_lay_80 rfl (by decide) rfl rfl ?_
          refine aw_aload (npc := 84) rfl dX7_lay_82 rfl ?_
          refine aw_iload_n (npc := 85) rfl dX7_lay_84 rfl ?_
          refine aw_put (npc := 88) dX7_lay_85 rfl kf_X7_302 (Sl sn (by omega)).1 (Nat.le_of_ble_eq_true rfl) (am_ok_int _) rfl ?_
          have Sl12 := sl_th (s := sn) (v := 1) Sl
          have O13 := ob_out (a := 54 + 3 * sn) (c := .inr (3, (slO th kd pr nu sn).set 0 (.int 1))) (by omega) O
          have F14 := qr_out (a := 54 + 3 * sn) (c := .inr (3, (slO th kd pr nu sn).set 0 (.int 1))) (by omega) F
          have Rw15 := rw_out (a := 54 + 3 * sn) (c := .inr (3, (slO th kd pr nu sn).set 0 (.int 1))) (by omega) Rw
          refine aw_iload_n (npc := 89) rfl dX7_lay_88 rfl ?_
          refine aw_iconst (npc := 90) (v := 1) (by decide) dX7_lay_89 rfl ?_
          refine aw_icmp_ne (npc := 93) (tgt := 124) dX7_lay_90 rfl (by decide) (fun hc => absurd (by decide) hc) (fun _ => ?_)
          refine aw_aload (npc := 95) rfl dX7_lay_93 rfl ?_
          refine aw_aload_n (npc := 96) rfl dX7_lay_95 rfl ?_
          refine aw_get (npc := 99) dX7_lay_96 rfl kf_X7_10 O13.1 rfl ?_
          refine aw_get (npc := 102) dX7_lay_99 rfl kf_X7_90 F14.1 rfl ?_
          refine aw_iload_n (npc := 103) rfl dX7_lay_102 rfl ?_
          refine aw_iald (npc := 104) (x := N (22 + 5 * kn)) (j := kn) dX7_lay_103 rfl F14.2.2.2.2.1 (am_ix_nI (by omega)) (tl_at (by omega)) ?_
          refine aw_put (npc := 107) dX7_lay_104 rfl kf_X7_305 (Sl12 sn (by omega)).1 (Nat.le_of_ble_eq_true rfl) (am_ok_int _) rfl ?_
          have Sl16 := sl_kd (s := sn) (v := N (22 + 5 * kn)) Sl12
          have O17 := ob_out (a := 54 + 3 * sn) (c := .inr (3, (slO (upd th sn 1) kd pr nu sn).set 1 (.int (N (22 + 5 * kn))))) (by omega) O13
          have F18 := qr_out (a := 54 + 3 * sn) (c := .inr (3, (slO (upd th sn 1) kd pr nu sn).set 1 (.int (N (22 + 5 * kn))))) (by omega) F14
          have Rw19 := rw_out (a := 54 + 3 * sn) (c := .inr (3, (slO (upd th sn 1) kd pr nu sn).set 1 (.int (N (22 + 5 * kn))))) (by omega) Rw15
          refine aw_aload (npc := 109) rfl dX7_lay_107 rfl ?_
          refine aw_aload_n (npc := 110) rfl dX7_lay_109 rfl ?_
          refine aw_get (npc := 113) dX7_lay_110 rfl kf_X7_10 O17.1 rfl ?_
          refine aw_get (npc := 116) dX7_lay_113 rfl kf_X7_96 F18.1 rfl ?_
          refine aw_iload_n (npc := 117) rfl dX7_lay_116 rfl ?_
          refine aw_iald (npc := 118) (x := N (24 + 5 * kn)) (j := kn) dX7_lay_117 rfl F18.2.2.2.2.2.2.1 (am_ix_nI (by omega)) (tl_at (by omega)) ?_
          refine aw_put (npc := 121) dX7_lay_118 rfl kf_X7_308 (Sl16 sn (by omega)).1 (Nat.le_of_ble_eq_true rfl) (am_ok_int _) rfl ?_
          have Sl20 := sl_pr (s := sn) (v := N (24 + 5 * kn)) Sl16
          have O21 := ob_out (a := 54 + 3 * sn) (c := .inr (3, (slO (upd th sn 1) (upd kd sn (N (22 + 5 * kn))) pr nu sn).set 2 (.int (N (24 + 5 * kn))))) (by omega) O17
          have F22 := qr_out (a := 54 + 3 * sn) (c := .inr (3, (slO (upd th sn 1) (upd kd sn (N (22 + 5 * kn))) pr nu sn).set 2 (.int (N (24 + 5 * kn))))) (by omega) F18
          have Rw23 := rw_out (a := 54 + 3 * sn) (c := .inr (3, (slO (upd th sn 1) (upd kd sn (N (22 + 5 * kn))) pr nu sn).set 2 (.int (N (24 + 5 * kn))))) (by omega) Rw19
          refine aw_goto (npc := 152) dX7_lay_121 (by decide) ?_
          refine aw_iload (npc := 154) rfl dX7_lay_152 rfl ?_
          refine aw_iret rfl dX7_lay_154 ?_
          exact hq _ _ _ _ _ _ _ _ _ (by simp [laB, laK, laV, laT, laH, laU, cI, hw1, hw2, hw11, fsn, fkn]) (by simp [laB, laK, laV, laT, laH, laU, cI, hw1, hw2, hw11, fsn, fkn]) (by simp [laB, laK, laV, laT, laH, laU, cI, hw1, hw2, hw11, fsn, fkn]) (by simp [laB, laK, laV, laT, laH, laU, cI, hw1, hw2, hw11, fsn, fkn]) (by simp [laB, laK, laV, laT, laH, laU, cI, hw1, hw2, hw11, fsn, fkn]) (by simp [laB, laK, laV, laT, laH, laU, cI, hw1, hw2, hw11, fsn, fkn]) (by simp [laB, laK, laV, laT, laH, laU, cI, hw1, hw2, hw11, fsn, fkn]) (by simp [laB, laK, laV, laT, laH, laU, cI, hw1, hw2, hw11, fsn, fkn]) Sl20 (am_fpU (show ¬ ((54 + 3 * sn) < 54 ∨ 69 ≤ (54 + 3 * sn)) by omega) (am_fpU (show ¬ ((54 + 3 * sn) < 54 ∨ 69 ≤ (54 + 3 * sn)) by omega) (am_fpU (show ¬ ((54 + 3 * sn) < 54 ∨ 69 ≤ (54 + 3 * sn)) by omega) am_fp0)))
        · refine aw_re (S' := [.int 0]) rfl ?_
          refine aw_if_eq (npc := 32) (tgt := 44) dX7_lay_29 rfl (by decide) (fun _ => ?_) (fun hc => absurd (by decide) hc)
          refine aw_ldc (npc := 46) kc_X7_78 dX7_lay_44 rfl ?_
          refine aw_iret rfl dX7_lay_46 ?_
          exact hq _ _ _ _ _ _ _ _ _ (by simp [laB, laK, laV, laT, laH, laU, cI, hw1, hw2, hw11, fsn]) (by simp [laB, laK, laV, laT, laH, laU, cI, hw1, hw2, hw11, fsn]) (by simp [laB, laK, laV, laT, laH, laU, cI, hw1, hw2, hw11, fsn]) (by simp [laB, laK, laV, laT, laH, laU, cI, hw1, hw2, hw11, fsn]) (by simp [laB, laK, laV, laT, laH, laU, cI, hw1, hw2, hw11, fsn]) (by simp [laB, laK, laV, laT, laH, laU, cI, hw1, hw2, hw11, fsn]) (by simp [laB, laK, laV, laT, laH, laU, cI, hw1, hw2, hw11, fsn]) (by simp [laB, laK, laV, laT, laH, laU, cI, hw1, hw2, hw11, fsn]) Sl am_fp0
      · refine aw_re (S' := [.int 1]) rfl ?_
        refine aw_if_eq (npc := 16) (tgt := 44) dX7_lay_13 rfl (by decide) (fun hc => absurd hc (by decide)) (fun _ => ?_)
        refine aw_iload_n (npc := 17) rfl dX7_lay_16 rfl ?_
        refine aw_iconst (npc := 18) (v := 1) (by decide) dX7_lay_17 rfl ?_
        refine aw_icmp_ne (npc := 21) (tgt := 32) dX7_lay_18 rfl (by decide) (fun _ => ?_) (fun hc => absurd hc (by decide))
        refine aw_iload_n (npc := 33) rfl dX7_lay_32 rfl ?_
        refine aw_iconst (npc := 34) (v := 2) (by decide) dX7_lay_33 rfl ?_
        refine aw_icmp_ne (npc := 37) (tgt := 47) dX7_lay_34 rfl (by decide) (fun hc => absurd (by decide) hc) (fun _ => ?_)
        refine aw_iload_n (npc := 38) rfl dX7_lay_37 rfl ?_
        refine aw_callS (npc := 41) (N := mX7_isSheet) (mc := 0) (ms := 0) (A := [.int k]) (S := []) (L0 := [some (.int k)]) dX7_lay_38 rfl km_X7_isSheet kk_X7_204 rfl ⟨rfl, by decide⟩ rfl (Nat.le_of_ble_eq_true rfl) (Nat.zero_add _) (Nat.zero_add _) rfl ?_
        refine c_X7_isSheet (fun hw24 => ?_) (fun hw24 => ?_)
        · obtain ⟨kn, hkn, ekn⟩ := wi_nI (H := 3) (by decide) (by decide) hw24
          subst ekn
          have fkn : fN (nI kn) = kn := fN_nI (by omega)
          obtain ⟨hsr, z9, hz9, ez9⟩ := hI kn (by omega)
          refine aw_re (S' := [.int 1]) rfl ?_
          refine aw_if_ne (npc := 44) (tgt := 47) dX7_lay_41 rfl (by decide) (fun _ => ?_) (fun hc => absurd hc (by decide))
          refine aw_iload_n (npc := 48) rfl dX7_lay_47 rfl ?_
          refine aw_iconst (npc := 49) (v := 2) (by decide) dX7_lay_48 rfl ?_
          refine aw_icmp_ne (npc := 52) (tgt := 67) dX7_lay_49 rfl (by decide) (fun hc => absurd (by decide) hc) (fun _ => ?_)
          refine aw_aload_n (npc := 53) rfl dX7_lay_52 rfl ?_
          refine aw_get (npc := 56) dX7_lay_53 rfl kf_X7_47 O.1 rfl ?_
          refine aw_iload_n (npc := 57) rfl dX7_lay_56 rfl ?_
          refine aw_aald (npc := 58) (j := kn) dX7_lay_57 rfl (by decide) O.2.1 (am_ix_nI (by omega)) (sh_at (by omega)) ?_
          refine aw_callV (npc := 61) (N := mX2_isMissing) (b := 46 + 2 * kn) (mc := 0) (ms := 0) (A := []) (S := []) (L0 := [some (.ref (46 + 2 * kn))]) dX7_lay_58 rfl km_X2_isMissing kk_X7_207 (Rw kn (by omega)).1 ⟨by decide, rfl⟩ rfl ⟨rfl, by decide⟩ rfl (Nat.le_of_ble_eq_true rfl) (Nat.zero_add _) (Nat.zero_add _) rfl ?_
          refine aw_aload_n (npc := 1) rfl dX2_isMissing_0 rfl ?_
          refine aw_get (npc := 4) dX2_isMissing_1 rfl kf_X2_9 (Rw kn (by omega)).1 rfl ?_
          rcases wi_cm1_1 hsr with esr | esr | esr
          · refine aw_top (y := -1) esr ?_
            refine aw_iconst (npc := 5) (v := -1) (by decide) dX2_isMissing_4 rfl ?_
            refine aw_icmp_ne (npc := 8) (tgt := 12) dX2_isMissing_5 rfl (by decide) (fun hc => absurd (by decide) hc) (fun _ => ?_)
            refine aw_iconst (npc := 9) (v := 1) (by decide) dX2_isMissing_8 rfl ?_
            refine aw_goto (npc := 13) dX2_isMissing_9 (by decide) ?_
            refine aw_zret rfl rfl dX2_isMissing_13 ?_
            refine aw_re (S' := [.int 1]) rfl ?_
            refine aw_if_eq (npc := 64) (tgt := 67) dX7_lay_61 rfl (by decide) (fun hc => absurd hc (by decide)) (fun _ => ?_)
            refine aw_ldc (npc := 66) kc_X7_210 dX7_lay_64 rfl ?_
            refine aw_iret rfl dX7_lay_66 ?_
            exact hq _ _ _ _ _ _ _ _ _ (by simp [laB, laK, laV, laT, laH, laU, cI, hw1, hw2, hw24, fsn, fkn, esr]) (by simp [laB, laK, laV, laT, laH, laU, cI, hw1, hw2, hw24, fsn, fkn, esr]) (by simp [laB, laK, laV, laT, laH, laU, cI, hw1, hw2, hw24, fsn, fkn, esr]) (by simp [laB, laK, laV, laT, laH, laU, cI, hw1, hw2, hw24, fsn, fkn, esr]) (by simp [laB, laK, laV, laT, laH, laU, cI, hw1, hw2, hw24, fsn, fkn, esr]) (by simp [laB, laK, laV, laT, laH, laU, cI, hw1, hw2, hw24, fsn, fkn, esr]) (by simp [laB, laK, laV, laT, laH, laU, cI, hw1, hw2, hw24, fsn, fkn, esr]) (by simp [laB, laK, laV, laT, laH, laU, cI, hw1, hw2, hw24, fsn, fkn, esr]) Sl am_fp0
          · refine aw_top (y := 0) esr ?_
            refine aw_iconst (npc := 5) (v := -1) (by decide) dX2_isMissing_4 rfl ?_
            refine aw_icmp_ne (npc := 8) (tgt := 12) dX2_isMissing_5 rfl (by decide) (fun _ => ?_) (fun hc => absurd hc (by decide))
            refine aw_iconst (npc := 13) (v := 0) (by decide) dX2_isMissing_12 rfl ?_
            refine aw_zret rfl rfl dX2_isMissing_13 ?_
            refine aw_re (S' := [.int 0]) rfl ?_
            refine aw_if_eq (npc := 64) (tgt := 67) dX7_lay_61 rfl (by decide) (fun _ => ?_) (fun hc => absurd (by decide) hc)
            refine aw_aload_n (npc := 68) rfl dX7_lay_67 rfl ?_
            refine aw_get (npc := 71) dX7_lay_68 rfl kf_X7_53 O.1 rfl ?_
            refine aw_iload_n (npc := 72) rfl dX7_lay_71 rfl ?_
            refine aw_aald (npc := 73) (j := sn) dX7_lay_72 rfl (by decide) O.2.2 (am_ix_nI (by omega)) (sl_at (by omega)) ?_
            refine aw_astore (npc := 75) (L' := [some (.ref 0), some (.int (nI sn)), some (.int 2), some (.int (nI kn)), some (.ref (54 + 3 * sn)), none]) dX7_lay_73 rfl (by decide) rfl rfl ?_
            refine aw_aload (npc := 77) rfl dX7_lay_75 rfl ?_
            refine aw_get (npc := 80) dX7_lay_77 rfl kf_X7_302 (Sl sn (by omega)).1 rfl ?_
            refine aw_istore (npc := 82) (L' := [some (.ref 0), some (.int (nI sn)), some (.int 2), some (.int (nI kn)), some (.ref (54 + 3 * sn)), some (.int (th sn))]) dX7_lay_80 rfl (by decide) rfl rfl ?_
            refine aw_aload (npc := 84) rfl dX7_lay_82 rfl ?_
            refine aw_iload_n (npc := 85) rfl dX7_lay_84 rfl ?_
            refine aw_put (npc := 88) dX7_lay_85 rfl kf_X7_302 (Sl sn (by omega)).1 (Nat.le_of_ble_eq_true rfl) (am_ok_int _) rfl ?_
            have Sl25 := sl_th (s := sn) (v := 2) Sl
            have O26 := ob_out (a := 54 + 3 * sn) (c := .inr (3, (slO th kd pr nu sn).set 0 (.int 2))) (by omega) O
            have F27 := qr_out (a := 54 + 3 * sn) (c := .inr (3, (slO th kd pr nu sn).set 0 (.int 2))) (by omega) F
            have Rw28 := rw_out (a := 54 + 3 * sn) (c := .inr (3, (slO th kd pr nu sn).set 0 (.int 2))) (by omega) Rw
            refine aw_iload_n (npc := 89) rfl dX7_lay_88 rfl ?_
            refine aw_iconst (npc := 90) (v := 1) (by decide) dX7_lay_89 rfl ?_
            refine aw_icmp_ne (npc := 93) (tgt := 124) dX7_lay_90 rfl (by decide) (fun _ => ?_) (fun hc => absurd hc (by decide))
            refine aw_iload_n (npc := 125) rfl dX7_lay_124 rfl ?_
            refine aw_iconst (npc := 126) (v := 2) (by decide) dX7_lay_125 rfl ?_
            refine aw_icmp_ne (npc := 129) (tgt := 146) dX7_lay_126 rfl (by decide) (fun hc => absurd (by decide) hc) (fun _ => ?_)
            refine aw_aload (npc := 131) rfl dX7_lay_129 rfl ?_
            refine aw_get (npc := 134) dX7_lay_131 rfl kf_X7_311 (Sl25 sn (by omega)).1 rfl ?_
            refine aw_aload_n (npc := 135) rfl dX7_lay_134 rfl ?_
            refine aw_get (npc := 138) dX7_lay_135 rfl kf_X7_47 O26.1 rfl ?_
            refine aw_iload_n (npc := 139) rfl dX7_lay_138 rfl ?_
            refine aw_aald (npc := 140) (j := kn) dX7_lay_139 rfl (by decide) O26.2.1 (am_ix_nI (by omega)) (sh_at (by omega)) ?_
            refine aw_callV (npc := 143) (N := mX2_becomes) (b := 55 + 3 * sn) (mc := 0) (ms := 0) (A := [.ref (46 + 2 * kn)]) (S := []) (L0 := [some (.ref (55 + 3 * sn)), some (.ref (46 + 2 * kn))]) dX7_lay_140 rfl km_X2_becomes kk_X7_315 (Sl25 sn (by omega)).2.1 ⟨by decide, rfl⟩ rfl ⟨rfl, by decide⟩ rfl (Nat.le_of_ble_eq_true rfl) (Nat.zero_add _) (Nat.zero_add _) rfl ?_
            refine aw_aload_n (npc := 1) rfl dX2_becomes_0 rfl ?_
            refine aw_aload_n (npc := 2) rfl dX2_becomes_1 rfl ?_
            refine aw_get (npc := 5) dX2_becomes_2 rfl kf_X2_9 (Rw28 kn (by omega)).1 rfl ?_
            refine aw_put (npc := 8) dX2_becomes_5 rfl kf_X2_9 (Sl25 sn (by omega)).2.1 (Nat.le_of_ble_eq_true rfl) (am_ok_int _) rfl ?_
            have Sl29 := sl_ss (s := sn) (v := sr kn) Sl25
            have O30 := ob_out (a := 55 + 3 * sn) (c := .inr (2, (slR ss zs sn).set 0 (.int (sr kn)))) (by omega) O26
            have F31 := qr_out (a := 55 + 3 * sn) (c := .inr (2, (slR ss zs sn).set 0 (.int (sr kn)))) (by omega) F27
            have Rw32 := rw_out (a := 55 + 3 * sn) (c := .inr (2, (slR ss zs sn).set 0 (.int (sr kn)))) (by omega) Rw28
            refine aw_aload_n (npc := 9) rfl dX2_becomes_8 rfl ?_
            refine aw_aload_n (npc := 10) rfl dX2_becomes_9 rfl ?_
            refine aw_get (npc := 13) dX2_becomes_10 rfl kf_X2_15 (Rw32 kn (by omega)).1 rfl ?_
            refine aw_put (npc := 16) dX2_becomes_13 rfl kf_X2_15 (Sl29 sn (by omega)).2.1 (Nat.le_of_ble_eq_true rfl) (am_ok_int _) rfl ?_
            have Sl33 := sl_zs (s := sn) (v := sz kn) Sl29
            have O34 := ob_out (a := 55 + 3 * sn) (c := .inr (2, (slR (upd ss sn (sr kn)) zs sn).set 1 (.int (sz kn)))) (by omega) O30
            have F35 := qr_out (a := 55 + 3 * sn) (c := .inr (2, (slR (upd ss sn (sr kn)) zs sn).set 1 (.int (sz kn)))) (by omega) F31
            have Rw36 := rw_out (a := 55 + 3 * sn) (c := .inr (2, (slR (upd ss sn (sr kn)) zs sn).set 1 (.int (sz kn)))) (by omega) Rw32
            refine aw_aload_n (npc := 17) rfl dX2_becomes_16 rfl ?_
            refine aw_get (npc := 20) dX2_becomes_17 rfl kf_X2_18 (Rw36 kn (by omega)).1 rfl ?_
            refine aw_iconst (npc := 21) (v := 0) (by decide) dX2_becomes_20 rfl ?_
            refine aw_aload_n (npc := 22) rfl dX2_becomes_21 rfl ?_
            refine aw_get (npc := 25) dX2_becomes_22 rfl kf_X2_18 (Sl33 sn (by omega)).2.1 rfl ?_
            refine aw_iconst (npc := 26) (v := 0) (by decide) dX2_becomes_25 rfl ?_
            refine aw_bipush (npc := 28) (v := 24) (by decide) dX2_becomes_26 rfl ?_
            refine aw_copyi (npc := 31) (sp := 0) (dp := 0) (mm := 24) dX2_becomes_28 rfl kac_X2_28 kac_x (Rw36 kn (by omega)).2 (Sl33 sn (by omega)).2.2 ⟨by decide, by decide⟩ ⟨by decide, by decide⟩ ⟨by decide, by decide⟩ (by rw [tl_len]; omega) (by rw [tl_len]; omega) (Nat.le_of_ble_eq_true rfl) rfl ?_
            have Rw37 := sl_arr (hc' := cpS hc cl sn kn) (s := sn) Sl33 cpS_l (fun t i ht hi e => cpS_o (by omega) e)
            have O38 := ob_out (a := 56 + 3 * sn) (c := .inl (0, am_cpy (tl 24 (fun i => cl (24 * kn + i))) (tl 24 (fun i => hc (24 * sn + i))) 0 0 24)) (by omega) O34
            have F39 := qr_out (a := 56 + 3 * sn) (c := .inl (0, am_cpy (tl 24 (fun i => cl (24 * kn + i))) (tl 24 (fun i => hc (24 * sn + i))) 0 0 24)) (by omega) F35
            have Rw40 := rw_out (a := 56 + 3 * sn) (c := .inl (0, am_cpy (tl 24 (fun i => cl (24 * kn + i))) (tl 24 (fun i => hc (24 * sn + i))) 0 0 24)) (by omega) Rw36
            refine aw_vret rfl dX2_becomes_31 ?_
            refine aw_goto (npc := 152) dX7_lay_143 (by decide) ?_
            refine aw_iload (npc := 154) rfl dX7_lay_152 rfl ?_
            refine aw_iret rfl dX7_lay_154 ?_
            exact hq _ _ _ _ _ _ _ _ _ (by simp [laB, laK, laV, laT, laH, laU, cI, hw1, hw2, hw24, fsn, fkn, esr]) (by simp [laB, laK, laV, laT, laH, laU, cI, hw1, hw2, hw24, fsn, fkn, esr]) (by simp [laB, laK, laV, laT, laH, laU, cI, hw1, hw2, hw24, fsn, fkn, esr]) (by simp [laB, laK, laV, laT, laH, laU, cI, hw1, hw2, hw24, fsn, fkn, esr]) (by simp [laB, laK, laV, laT, laH, laU, cI, hw1, hw2, hw24, fsn, fkn, esr]) (by simp [laB, laK, laV, laT, laH, laU, cI, hw1, hw2, hw24, fsn, fkn, esr]) (by simp [laB, laK, laV, laT, laH, laU, cI, hw1, hw2, hw24, fsn, fkn, esr]) (by simp [laB, laK, laV, laT, laH, laU, cI, hw1, hw2, hw24, fsn, fkn, esr]) Rw37 (am_fpU (show ¬ ((56 + 3 * sn) < 54 ∨ 69 ≤ (56 + 3 * sn)) by omega) (am_fpU (show ¬ ((55 + 3 * sn) < 54 ∨ 69 ≤ (55 + 3 * sn)) by omega) (am_fpU (show ¬ ((55 + 3 * sn) < 54 ∨ 69 ≤ (55 + 3 * sn)) by omega) (am_fpU (show ¬ ((54 + 3 * sn) < 54 ∨ 69 ≤ (54 + 3 * sn)) by omega) am_fp0))))
          · refine aw_top (y := 1) esr ?_
            refine aw_iconst (npc := 5) (v := -1) (by decide) dX2_isMissing_4 rfl ?_
            refine aw_icmp_ne (npc := 8) (tgt := 12) dX2_isMissing_5 rfl (by decide) (fun _ => ?_) (fun hc => absurd hc (by decide))
            refine aw_iconst (npc := 13) (v := 0) (by decide) dX2_isMissing_12 rfl ?_
            refine aw_zret rfl rfl dX2_isMissing_13 ?_
            refine aw_re (S' := [.int 0]) rfl ?_
            refine aw_if_eq (npc := 64) (tgt := 67) dX7_lay_61 rfl (by decide) (fun _ => ?_) (fun hc => absurd (by decide) hc)
            refine aw_aload_n (npc := 68) rfl dX7_lay_67 rfl ?_
            refine aw_get (npc := 71) dX7_lay_68 rfl kf_X7_53 O.1 rfl ?_
            refine aw_iload_n (npc := 72) rfl dX7_lay_71 rfl ?_
            refine aw_aald (npc := 73) (j := sn) dX7_lay_72 rfl (by decide) O.2.2 (am_ix_nI (by omega)) (sl_at (by omega)) ?_
            refine aw_astore (npc := 75) (L' := [some (.ref 0), some (.int (nI sn)), some (.int 2), some (.int (nI kn)), some (.ref (54 + 3 * sn)), none]) dX7_lay_73 rfl (by decide) rfl rfl ?_
            refine aw_aload (npc := 77) rfl dX7_lay_75 rfl ?_
            refine aw_get (npc := 80) dX7_lay_77 rfl kf_X7_302 (Sl sn (by omega)).1 rfl ?_
            refine aw_istore (npc := 82) (L' := [some (.ref 0), some (.int (nI sn)), some (.int 2), some (.int (nI kn)), some (.ref (54 + 3 * sn)), some (.int (th sn))]) dX7_lay_80 rfl (by decide) rfl rfl ?_
            refine aw_aload (npc := 84) rfl dX7_lay_82 rfl ?_
            refine aw_iload_n (npc := 85) rfl dX7_lay_84 rfl ?_
            refine aw_put (npc := 88) dX7_lay_85 rfl kf_X7_302 (Sl sn (by omega)).1 (Nat.le_of_ble_eq_true rfl) (am_ok_int _) rfl ?_
            have Sl41 := sl_th (s := sn) (v := 2) Sl
            have O42 := ob_out (a := 54 + 3 * sn) (c := .inr (3, (slO th kd pr nu sn).set 0 (.int 2))) (by omega) O
            have F43 := qr_out (a := 54 + 3 * sn) (c := .inr (3, (slO th kd pr nu sn).set 0 (.int 2))) (by omega) F
            have Rw44 := rw_out (a := 54 + 3 * sn) (c := .inr (3, (slO th kd pr nu sn).set 0 (.int 2))) (by omega) Rw
            refine aw_iload_n (npc := 89) rfl dX7_lay_88 rfl ?_
            refine aw_iconst (npc := 90) (v := 1) (by decide) dX7_lay_89 rfl ?_
            refine aw_icmp_ne (npc := 93) (tgt := 124) dX7_lay_90 rfl (by decide) (fun _ => ?_) (fun hc => absurd hc (by decide))
            refine aw_iload_n (npc := 125) rfl dX7_lay_124 rfl ?_
            refine aw_iconst (npc := 126) (v := 2) (by decide) dX7_lay_125 rfl ?_
            refine aw_icmp_ne (npc := 129) (tgt := 146) dX7_lay_126 rfl (by decide) (fun hc => absurd (by decide) hc) (fun _ => ?_)
            refine aw_aload (npc := 131) rfl dX7_lay_129 rfl ?_
            refine aw_get (npc := 134) dX7_lay_131 rfl kf_X7_311 (Sl41 sn (by omega)).1 rfl ?_
            refine aw_aload_n (npc := 135) rfl dX7_lay_134 rfl ?_
            refine aw_get (npc := 138) dX7_lay_135 rfl kf_X7_47 O42.1 rfl ?_
            refine aw_iload_n (npc := 139) rfl dX7_lay_138 rfl ?_
            refine aw_aald (npc := 140) (j := kn) dX7_lay_139 rfl (by decide) O42.2.1 (am_ix_nI (by omega)) (sh_at (by omega)) ?_
            refine aw_callV (npc := 143) (N := mX2_becomes) (b := 55 + 3 * sn) (mc := 0) (ms := 0) (A := [.ref (46 + 2 * kn)]) (S := []) (L0 := [some (.ref (55 + 3 * sn)), some (.ref (46 + 2 * kn))]) dX7_lay_140 rfl km_X2_becomes kk_X7_315 (Sl41 sn (by omega)).2.1 ⟨by decide, rfl⟩ rfl ⟨rfl, by decide⟩ rfl (Nat.le_of_ble_eq_true rfl) (Nat.zero_add _) (Nat.zero_add _) rfl ?_
            refine aw_aload_n (npc := 1) rfl dX2_becomes_0 rfl ?_
            refine aw_aload_n (npc := 2) rfl dX2_becomes_1 rfl ?_
            refine aw_get (npc := 5) dX2_becomes_2 rfl kf_X2_9 (Rw44 kn (by omega)).1 rfl ?_
            refine aw_put (npc := 8) dX2_becomes_5 rfl kf_X2_9 (Sl41 sn (by omega)).2.1 (Nat.le_of_ble_eq_true rfl) (am_ok_int _) rfl ?_
            have Sl45 := sl_ss (s := sn) (v := sr kn) Sl41
            have O46 := ob_out (a := 55 + 3 * sn) (c := .inr (2, (slR ss zs sn).set 0 (.int (sr kn)))) (by omega) O42
            have F47 := qr_out (a := 55 + 3 * sn) (c := .inr (2, (slR ss zs sn).set 0 (.int (sr kn)))) (by omega) F43
            have Rw48 := rw_out (a := 55 + 3 * sn) (c := .inr (2, (slR ss zs sn).set 0 (.int (sr kn)))) (by omega) Rw44
            refine aw_aload_n (npc := 9) rfl dX2_becomes_8 rfl ?_
            refine aw_aload_n (npc := 10) rfl dX2_becomes_9 rfl ?_
            refine aw_get (npc := 13) dX2_becomes_10 rfl kf_X2_15 (Rw48 kn (by omega)).1 rfl ?_
            refine aw_put (npc := 16) dX2_becomes_13 rfl kf_X2_15 (Sl45 sn (by omega)).2.1 (Nat.le_of_ble_eq_true rfl) (am_ok_int _) rfl ?_
            have Sl49 := sl_zs (s := sn) (v := sz kn) Sl45
            have O50 := ob_out (a := 55 + 3 * sn) (c := .inr (2, (slR (upd ss sn (sr kn)) zs sn).set 1 (.int (sz kn)))) (by omega) O46
            have F51 := qr_out (a := 55 + 3 * sn) (c := .inr (2, (slR (upd ss sn (sr kn)) zs sn).set 1 (.int (sz kn)))) (by omega) F47
            have Rw52 := rw_out (a := 55 + 3 * sn) (c := .inr (2, (slR (upd ss sn (sr kn)) zs sn).set 1 (.int (sz kn)))) (by omega) Rw48
            refine aw_aload_n (npc := 17) rfl dX2_becomes_16 rfl ?_
            refine aw_get (npc := 20) dX2_becomes_17 rfl kf_X2_18 (Rw52 kn (by omega)).1 rfl ?_
            refine aw_iconst (npc := 21) (v := 0) (by decide) dX2_becomes_20 rfl ?_
            refine aw_aload_n (npc := 22) rfl dX2_becomes_21 rfl ?_
            refine aw_get (npc := 25) dX2_becomes_22 rfl kf_X2_18 (Sl49 sn (by omega)).2.1 rfl ?_
            refine aw_iconst (npc := 26) (v := 0) (by decide) dX2_becomes_25 rfl ?_
            refine aw_bipush (npc := 28) (v := 24) (by decide) dX2_becomes_26 rfl ?_
            refine aw_copyi (npc := 31) (sp := 0) (dp := 0) (mm := 24) dX2_becomes_28 rfl kac_X2_28 kac_x (Rw52 kn (by omega)).2 (Sl49 sn (by omega)).2.2 ⟨by decide, by decide⟩ ⟨by decide, by decide⟩ ⟨by decide, by decide⟩ (by rw [tl_len]; omega) (by rw [tl_len]; omega) (Nat.le_of_ble_eq_true rfl) rfl ?_
            have Rw53 := sl_arr (hc' := cpS hc cl sn kn) (s := sn) Sl49 cpS_l (fun t i ht hi e => cpS_o (by omega) e)
            have O54 := ob_out (a := 56 + 3 * sn) (c := .inl (0, am_cpy (tl 24 (fun i => cl (24 * kn + i))) (tl 24 (fun i => hc (24 * sn + i))) 0 0 24)) (by omega) O50
            have F55 := qr_out (a := 56 + 3 * sn) (c := .inl (0, am_cpy (tl 24 (fun i => cl (24 * kn + i))) (tl 24 (fun i => hc (24 * sn + i))) 0 0 24)) (by omega) F51
            have Rw56 := rw_out (a := 56 + 3 * sn) (c := .inl (0, am_cpy (tl 24 (fun i => cl (24 * kn + i))) (tl 24 (fun i => hc (24 * sn + i))) 0 0 24)) (by omega) Rw52
            refine aw_vret rfl dX2_becomes_31 ?_
            refine aw_goto (npc := 152) dX7_lay_143 (by decide) ?_
            refine aw_iload (npc := 154) rfl dX7_lay_152 rfl ?_
            refine aw_iret rfl dX7_lay_154 ?_
            exact hq _ _ _ _ _ _ _ _ _ (by simp [laB, laK, laV, laT, laH, laU, cI, hw1, hw2, hw24, fsn, fkn, esr]) (by simp [laB, laK, laV, laT, laH, laU, cI, hw1, hw2, hw24, fsn, fkn, esr]) (by simp [laB, laK, laV, laT, laH, laU, cI, hw1, hw2, hw24, fsn, fkn, esr]) (by simp [laB, laK, laV, laT, laH, laU, cI, hw1, hw2, hw24, fsn, fkn, esr]) (by simp [laB, laK, laV, laT, laH, laU, cI, hw1, hw2, hw24, fsn, fkn, esr]) (by simp [laB, laK, laV, laT, laH, laU, cI, hw1, hw2, hw24, fsn, fkn, esr]) (by simp [laB, laK, laV, laT, laH, laU, cI, hw1, hw2, hw24, fsn, fkn, esr]) (by simp [laB, laK, laV, laT, laH, laU, cI, hw1, hw2, hw24, fsn, fkn, esr]) Rw53 (am_fpU (show ¬ ((56 + 3 * sn) < 54 ∨ 69 ≤ (56 + 3 * sn)) by omega) (am_fpU (show ¬ ((55 + 3 * sn) < 54 ∨ 69 ≤ (55 + 3 * sn)) by omega) (am_fpU (show ¬ ((55 + 3 * sn) < 54 ∨ 69 ≤ (55 + 3 * sn)) by omega) (am_fpU (show ¬ ((54 + 3 * sn) < 54 ∨ 69 ≤ (54 + 3 * sn)) by omega) am_fp0))))
        · refine aw_re (S' := [.int 0]) rfl ?_
          refine aw_if_ne (npc := 44) (tgt := 47) dX7_lay_41 rfl (by decide) (fun hc => absurd (by decide) hc) (fun _ => ?_)
          refine aw_ldc (npc := 46) kc_X7_78 dX7_lay_44 rfl ?_
          refine aw_iret rfl dX7_lay_46 ?_
          exact hq _ _ _ _ _ _ _ _ _ (by simp [laB, laK, laV, laT, laH, laU, cI, hw1, hw2, hw24, fsn]) (by simp [laB, laK, laV, laT, laH, laU, cI, hw1, hw2, hw24, fsn]) (by simp [laB, laK, laV, laT, laH, laU, cI, hw1, hw2, hw24, fsn]) (by simp [laB, laK, laV, laT, laH, laU, cI, hw1, hw2, hw24, fsn]) (by simp [laB, laK, laV, laT, laH, laU, cI, hw1, hw2, hw24, fsn]) (by simp [laB, laK, laV, laT, laH, laU, cI, hw1, hw2, hw24, fsn]) (by simp [laB, laK, laV, laT, laH, laU, cI, hw1, hw2, hw24, fsn]) (by simp [laB, laK, laV, laT, laH, laU, cI, hw1, hw2, hw24, fsn]) Sl am_fp0
      · refine aw_re (S' := [.int 1]) rfl ?_
        refine aw_if_eq (npc := 16) (tgt := 44) dX7_lay_13 rfl (by decide) (fun hc => absurd hc (by decide)) (fun _ => ?_)
        refine aw_iload_n (npc := 17) rfl dX7_lay_16 rfl ?_
        refine aw_iconst (npc := 18) (v := 1) (by decide) dX7_lay_17 rfl ?_
        refine aw_icmp_ne (npc := 21) (tgt := 32) dX7_lay_18 rfl (by decide) (fun _ => ?_) (fun hc => absurd hc (by decide))
        refine aw_iload_n (npc := 33) rfl dX7_lay_32 rfl ?_
        refine aw_iconst (npc := 34) (v := 2) (by decide) dX7_lay_33 rfl ?_
        refine aw_icmp_ne (npc := 37) (tgt := 47) dX7_lay_34 rfl (by decide) (fun _ => ?_) (fun hc => absurd hc (by decide))
        refine aw_iload_n (npc := 48) rfl dX7_lay_47 rfl ?_
        refine aw_iconst (npc := 49) (v := 2) (by decide) dX7_lay_48 rfl ?_
        refine aw_icmp_ne (npc := 52) (tgt := 67) dX7_lay_49 rfl (by decide) (fun _ => ?_) (fun hc => absurd hc (by decide))
        refine aw_aload_n (npc := 68) rfl dX7_lay_67 rfl ?_
        refine aw_get (npc := 71) dX7_lay_68 rfl kf_X7_53 O.1 rfl ?_
        refine aw_iload_n (npc := 72) rfl dX7_lay_71 rfl ?_
        refine aw_aald (npc := 73) (j := sn) dX7_lay_72 rfl (by decide) O.2.2 (am_ix_nI (by omega)) (sl_at (by omega)) ?_
        refine aw_astore (npc := 75) (L' := [some (.ref 0), some (.int (nI sn)), some (.int 3), some (.int k), some (.ref (54 + 3 * sn)), none]) dX7_lay_73 rfl (by decide) rfl rfl ?_
        refine aw_aload (npc := 77) rfl dX7_lay_75 rfl ?_
        refine aw_get (npc := 80) dX7_lay_77 rfl kf_X7_302 (Sl sn (by omega)).1 rfl ?_
        refine aw_istore (npc := 82) (L' := [some (.ref 0), some (.int (nI sn)), some (.int 3), some (.int k), some (.ref (54 + 3 * sn)), some (.int (th sn))]) dX7_lay_80 rfl (by decide) rfl rfl ?_
        refine aw_aload (npc := 84) rfl dX7_lay_82 rfl ?_
        refine aw_iload_n (npc := 85) rfl dX7_lay_84 rfl ?_
        refine aw_put (npc := 88) dX7_lay_85 rfl kf_X7_302 (Sl sn (by omega)).1 (Nat.le_of_ble_eq_true rfl) (am_ok_int _) rfl ?_
        have Sl57 := sl_th (s := sn) (v := 3) Sl
        have O58 := ob_out (a := 54 + 3 * sn) (c := .inr (3, (slO th kd pr nu sn).set 0 (.int 3))) (by omega) O
        have F59 := qr_out (a := 54 + 3 * sn) (c := .inr (3, (slO th kd pr nu sn).set 0 (.int 3))) (by omega) F
        have Rw60 := rw_out (a := 54 + 3 * sn) (c := .inr (3, (slO th kd pr nu sn).set 0 (.int 3))) (by omega) Rw
        refine aw_iload_n (npc := 89) rfl dX7_lay_88 rfl ?_
        refine aw_iconst (npc := 90) (v := 1) (by decide) dX7_lay_89 rfl ?_
        refine aw_icmp_ne (npc := 93) (tgt := 124) dX7_lay_90 rfl (by decide) (fun _ => ?_) (fun hc => absurd hc (by decide))
        refine aw_iload_n (npc := 125) rfl dX7_lay_124 rfl ?_
        refine aw_iconst (npc := 126) (v := 2) (by decide) dX7_lay_125 rfl ?_
        refine aw_icmp_ne (npc := 129) (tgt := 146) dX7_lay_126 rfl (by decide) (fun _ => ?_) (fun hc => absurd hc (by decide))
        refine aw_aload (npc := 148) rfl dX7_lay_146 rfl ?_
        refine aw_iload_n (npc := 149) rfl dX7_lay_148 rfl ?_
        refine aw_put (npc := 152) dX7_lay_149 rfl kf_X7_318 (Sl57 sn (by omega)).1 (Nat.le_of_ble_eq_true rfl) (am_ok_int _) rfl ?_
        have Sl61 := sl_nu (s := sn) (v := k) Sl57
        have O62 := ob_out (a := 54 + 3 * sn) (c := .inr (3, (slO (upd th sn 3) kd pr nu sn).set 3 (.int k))) (by omega) O58
        have F63 := qr_out (a := 54 + 3 * sn) (c := .inr (3, (slO (upd th sn 3) kd pr nu sn).set 3 (.int k))) (by omega) F59
        have Rw64 := rw_out (a := 54 + 3 * sn) (c := .inr (3, (slO (upd th sn 3) kd pr nu sn).set 3 (.int k))) (by omega) Rw60
        refine aw_iload (npc := 154) rfl dX7_lay_152 rfl ?_
        refine aw_iret rfl dX7_lay_154 ?_
        exact hq _ _ _ _ _ _ _ _ _ (by simp [laB, laK, laV, laT, laH, laU, cI, hw1, hw2, fsn]) (by simp [laB, laK, laV, laT, laH, laU, cI, hw1, hw2, fsn]) (by simp [laB, laK, laV, laT, laH, laU, cI, hw1, hw2, fsn]) (by simp [laB, laK, laV, laT, laH, laU, cI, hw1, hw2, fsn]) (by simp [laB, laK, laV, laT, laH, laU, cI, hw1, hw2, fsn]) (by simp [laB, laK, laV, laT, laH, laU, cI, hw1, hw2, fsn]) (by simp [laB, laK, laV, laT, laH, laU, cI, hw1, hw2, fsn]) (by simp [laB, laK, laV, laT, laH, laU, cI, hw1, hw2, fsn]) Sl61 (am_fpU (show ¬ ((54 + 3 * sn) < 54 ∨ 69 ≤ (54 + 3 * sn)) by omega) (am_fpU (show ¬ ((54 + 3 * sn) < 54 ∨ 69 ≤ (54 + 3 * sn)) by omega) am_fp0))
    · refine aw_re (S' := [.int 0]) rfl ?_
      refine aw_if_eq (npc := 16) (tgt := 44) dX7_lay_13 rfl (by decide) (fun _ => ?_) (fun hc => absurd (by decide) hc)
      refine aw_ldc (npc := 46) kc_X7_78 dX7_lay_44 rfl ?_
      refine aw_iret rfl dX7_lay_46 ?_
      exact hq _ _ _ _ _ _ _ _ _ (by simp [laB, laK, laV, laT, laH, laU, cI, hw1, hw2, fsn, nwi_1 hw2 (k := 0) ⟨by decide, by decide⟩, nwi_1 hw2 (k := 1) ⟨by decide, by decide⟩, nwi_1 hw2 (k := 2) ⟨by decide, by decide⟩, nwi_1 hw2 (k := 3) ⟨by decide, by decide⟩]) (by simp [laB, laK, laV, laT, laH, laU, cI, hw1, hw2, fsn, nwi_1 hw2 (k := 0) ⟨by decide, by decide⟩, nwi_1 hw2 (k := 1) ⟨by decide, by decide⟩, nwi_1 hw2 (k := 2) ⟨by decide, by decide⟩, nwi_1 hw2 (k := 3) ⟨by decide, by decide⟩]) (by simp [laB, laK, laV, laT, laH, laU, cI, hw1, hw2, fsn, nwi_1 hw2 (k := 0) ⟨by decide, by decide⟩, nwi_1 hw2 (k := 1) ⟨by decide, by decide⟩, nwi_1 hw2 (k := 2) ⟨by decide, by decide⟩, nwi_1 hw2 (k := 3) ⟨by decide, by decide⟩]) (by simp [laB, laK, laV, laT, laH, laU, cI, hw1, hw2, fsn, nwi_1 hw2 (k := 0) ⟨by decide, by decide⟩, nwi_1 hw2 (k := 1) ⟨by decide, by decide⟩, nwi_1 hw2 (k := 2) ⟨by decide, by decide⟩, nwi_1 hw2 (k := 3) ⟨by decide, by decide⟩]) (by simp [laB, laK, laV, laT, laH, laU, cI, hw1, hw2, fsn, nwi_1 hw2 (k := 0) ⟨by decide, by decide⟩, nwi_1 hw2 (k := 1) ⟨by decide, by decide⟩, nwi_1 hw2 (k := 2) ⟨by decide, by decide⟩, nwi_1 hw2 (k := 3) ⟨by decide, by decide⟩]) (by simp [laB, laK, laV, laT, laH, laU, cI, hw1, hw2, fsn, nwi_1 hw2 (k := 0) ⟨by decide, by decide⟩, nwi_1 hw2 (k := 1) ⟨by decide, by decide⟩, nwi_1 hw2 (k := 2) ⟨by decide, by decide⟩, nwi_1 hw2 (k := 3) ⟨by decide, by decide⟩]) (by simp [laB, laK, laV, laT, laH, laU, cI, hw1, hw2, fsn, nwi_1 hw2 (k := 0) ⟨by decide, by decide⟩, nwi_1 hw2 (k := 1) ⟨by decide, by decide⟩, nwi_1 hw2 (k := 2) ⟨by decide, by decide⟩, nwi_1 hw2 (k := 3) ⟨by decide, by decide⟩]) (by simp [laB, laK, laV, laT, laH, laU, cI, hw1, hw2, fsn, nwi_1 hw2 (k := 0) ⟨by decide, by decide⟩, nwi_1 hw2 (k := 1) ⟨by decide, by decide⟩, nwi_1 hw2 (k := 2) ⟨by decide, by decide⟩, nwi_1 hw2 (k := 3) ⟨by decide, by decide⟩]) Sl am_fp0
  · refine aw_re (S' := [.int 0]) rfl ?_
    refine aw_if_eq (npc := 7) (tgt := 44) dX7_lay_4 rfl (by decide) (fun _ => ?_) (fun hc => absurd (by decide) hc)
    refine aw_ldc (npc := 46) kc_X7_78 dX7_lay_44 rfl ?_
    refine aw_iret rfl dX7_lay_46 ?_
    exact hq _ _ _ _ _ _ _ _ _ (by simp [laB, laK, laV, laT, laH, laU, cI, hw1]) (by simp [laB, laK, laV, laT, laH, laU, cI, hw1]) (by simp [laB, laK, laV, laT, laH, laU, cI, hw1]) (by simp [laB, laK, laV, laT, laH, laU, cI, hw1]) (by simp [laB, laK, laV, laT, laH, laU, cI, hw1]) (by simp [laB, laK, laV, laT, laH, laU, cI, hw1]) (by simp [laB, laK, laV, laT, laH, laU, cI, hw1]) (by simp [laB, laK, laV, laT, laH, laU, cI, hw1]) Sl am_fp0
set_option maxHeartbeats 4000000 in
set_option maxRecDepth 100000 in
theorem m_layL {X : List Int32} {d rc rs n : Nat} {Q : am_Q} {o N : Nat → Int32} {s k : Nat} {w : Int32} (hs : s < 5) (hk4 : k < 4) {a0 : Nat → Nat → Int32} : ∀ (q i : Nat), i + q = 24 → ∀ (a : Nat → Nat → Int32) (h : am_H), MR o N a h → a 89 = cpT (a0 89) (a0 85) s k i → (∀ c, c ≠ 89 → a c = a0 c) → (∀ a9 h9, MR o N a9 h9 → a9 89 = cpT (a0 89) (a0 85) s k 24 → (∀ c, c ≠ 89 → a9 c = a0 c) → am_fp (fun k => k < 69 ∨ 92 ≤ k) h9 h → AW X mX8_lay d rc rs 176 [some (.ref 69), some (.int (nI s)), some (.int 2), some (.int (nI k)), some (.int w), some (.int (nI 24))] [] n h9 Q) → AW X mX8_lay d rc rs 134 [some (.ref 69), some (.int (nI s)), some (.int 2), some (.int (nI k)), some (.int w), some (.int (nI i))] [] n h Q := by
  intro q
  induction q with
  | zero =>
    intro i hi a h F hk9 hc9 hq
    obtain rfl : i = 24 := by omega
    refine aw_iload (npc := 136) rfl dX8_lay_134 rfl ?_
    refine aw_bipush (npc := 138) (v := 24) (by decide) dX8_lay_136 rfl ?_
    exact aw_icmp_ge (npc := 141) (tgt := 176) dX8_lay_138 rfl (by decide) (fun _ => hq _ _ F hk9 hc9 am_fp0) (fun hc => absurd (nI_le (a := 24) (b := 24) (Nat.le_refl _) (by decide)) hc)
  | succ q ih =>
    intro i hi a h F hk9 hc9 hq
    refine aw_iload (npc := 136) rfl dX8_lay_134 rfl ?_
    refine aw_bipush (npc := 138) (v := 24) (by decide) dX8_lay_136 rfl ?_
    refine aw_icmp_ge (npc := 141) (tgt := 176) dX8_lay_138 rfl (by decide) (fun hc => absurd hc (nI_ge (a := i) (b := 24) (by omega) (by omega))) (fun _ => ?_)
    refine aw_iload_n (npc := 142) rfl dX8_lay_141 rfl ?_
    refine aw_iconst (npc := 143) (v := 2) (by decide) dX8_lay_142 rfl ?_
    refine aw_icmp_ne (npc := 146) (tgt := 176) dX8_lay_143 rfl (by decide) (fun hc => absurd (by decide) hc) (fun _ => ?_)
    refine aw_aload_n (npc := 147) rfl dX8_lay_146 rfl ?_
    refine aw_get (npc := 150) dX8_lay_147 rfl kf_X8_73 F.1 rfl ?_
    refine aw_bipush (npc := 152) (v := 24) (by decide) dX8_lay_150 rfl ?_
    refine aw_iload_n (npc := 153) rfl dX8_lay_152 rfl ?_
    refine aw_imulV (npc := 154) (v := nI (24 * s)) dX8_lay_153 rfl (pk_mul 24 _) ?_
    refine aw_iload (npc := 156) rfl dX8_lay_154 rfl ?_
    refine aw_iaddV (npc := 157) (v := nI ((24 * s) + i)) dX8_lay_156 rfl (nI_add _ _) ?_
    refine aw_aload_n (npc := 158) rfl dX8_lay_157 rfl ?_
    refine aw_get (npc := 161) dX8_lay_158 rfl kf_X8_61 F.1 rfl ?_
    refine aw_bipush (npc := 163) (v := 24) (by decide) dX8_lay_161 rfl ?_
    refine aw_iload_n (npc := 164) rfl dX8_lay_163 rfl ?_
    refine aw_imulV (npc := 165) (v := nI (24 * k)) dX8_lay_164 rfl (pk_mul 24 _) ?_
    refine aw_iload (npc := 167) rfl dX8_lay_165 rfl ?_
    refine aw_iaddV (npc := 168) (v := nI ((24 * k) + i)) dX8_lay_167 rfl (nI_add _ _) ?_
    refine aw_iald (npc := 169) (x := (a 85) ((24 * k) + i)) (j := ((24 * k) + i)) dX8_lay_168 rfl F.2.2.2.2.2.2.2.2.2.2.2.2.2.2.2.2.1 (am_ix_nI (by omega)) (tl_at (by omega)) ?_
    refine aw_iast (npc := 170) (j := ((24 * s) + i)) dX8_lay_169 rfl F.2.2.2.2.2.2.2.2.2.2.2.2.2.2.2.2.2.2.2.2.1 (am_ix_nI (by omega)) (by rw [tl_len]; omega) rfl ?_
    have F2 := mr_89 (j := ((24 * s) + i)) (v := (a 85) ((24 * k) + i)) F
    refine aw_iinc (npc := 173) (v := nI (i + 1)) (L' := [some (.ref 69), some (.int (nI s)), some (.int 2), some (.int (nI k)), some (.int w), some (.int (nI (i + 1)))]) dX8_lay_170 rfl rfl (nI_1 _) (by decide) rfl rfl ?_
    refine aw_goto (npc := 134) dX8_lay_173 (by decide) ?_
    refine ih (i + 1) (by omega) _ _ F2 ?_ (fun c hc => (aup_n hc).trans (hc9 c hc)) (fun a9 h9 M9 e9 c9 f9 => hq a9 h9 M9 e9 c9 (am_fpT f9 (am_fpU (show ¬ (89 < 69 ∨ 92 ≤ 89) by omega) am_fp0)))
    rw [aup_s, hk9, hc9 85 (by decide)]
    exact cpT_s
def upA (a : Nat → Nat → Int32) (s : Nat) (x y z : Int32) : Nat → Nat → Int32 := aup (aup (aup a 86 s x) 87 s y) 88 s z
theorem upA_86 {a : Nat → Nat → Int32} {s : Nat} {x y z : Int32} : upA a s x y z 86 = upd (a 86) s x := rfl
theorem upA_87 {a : Nat → Nat → Int32} {s : Nat} {x y z : Int32} : upA a s x y z 87 = upd (a 87) s y := rfl
theorem upA_88 {a : Nat → Nat → Int32} {s : Nat} {x y z : Int32} : upA a s x y z 88 = upd (a 88) s z := rfl
theorem upA_n {a : Nat → Nat → Int32} {s c : Nat} {x y z : Int32} (h : c ≠ 86 ∧ c ≠ 87 ∧ c ≠ 88) : upA a s x y z c = a c := (aup_n h.2.2).trans ((aup_n h.2.1).trans (aup_n h.1))
def laM (N sr : Nat → Int32) (s t k : Int32) (sz hA hA9 : Nat → Int32) : Prop := (laK N sr s t k → (t = 1 → hA9 = upd hA (fN s) (N (22 + 5 * fN k))) ∧ (t = 2 → hA9 = upd hA (fN s) (sz (fN k))) ∧ (¬ t = 1 → ¬ t = 2 → hA9 = upd hA (fN s) k)) ∧ (¬ laK N sr s t k → hA9 = hA)
def laM2 (N sr : Nat → Int32) (s t k : Int32) (hB hB9 : Nat → Int32) : Prop := (laK N sr s t k → (t = 1 → hB9 = upd hB (fN s) (wort (N (22 + 5 * fN k)) (N (24 + 5 * fN k)))) ∧ (¬ t = 1 → hB9 = upd hB (fN s) 0)) ∧ (¬ laK N sr s t k → hB9 = hB)
set_option maxHeartbeats 4000000 in
set_option maxRecDepth 100000 in
theorem M_lay {X : List Int32} {d rc rs n : Nat} {Q : am_Q} {h : am_H} {o N : Nat → Int32} {a : Nat → Nat → Int32} {fr c : Nat} {s : Int32} {t : Int32} {k : Int32} (F : MR o N a h) (hR : RG N fr c) (hI : RI (a 83) (a 84)) (hq : ∀ v9 a9 h9, v9 = laV N (a 83) (a 86) s t k → a9 86 = laT N (a 83) s t k (a 86) → laM N (a 83) s t k (a 84) (a 87) (a9 87) → laM2 N (a 83) s t k (a 88) (a9 88) → a9 89 = laH N (a 83) (a 85) s t k (a 89) → (∀ c, c ≠ 86 → c ≠ 87 → c ≠ 88 → c ≠ 89 → a9 c = a c) → MR o N a9 h9 → am_fp (fun k => k < 69 ∨ 92 ≤ k) h9 h → Q (some (.int v9)) n h9) : AW X mX8_lay (d + 12) rc rs 0 [some (.ref 69), some (.int s), some (.int t), some (.int k), none, none] [] n h Q := by
  have h8r := hR.2.1
  have h14r := hR.2.2.2.1
  refine aw_iload_n (npc := 1) rfl dX8_lay_0 rfl ?_
  refine aw_callS (npc := 4) (N := mX8_isSlot) (mc := 0) (ms := 0) (A := [.int s]) (S := []) (L0 := [some (.int s)]) dX8_lay_1 rfl km_X8_isSlot kk_X8_262 rfl ⟨rfl, by decide⟩ rfl (Nat.le_of_ble_eq_true rfl) (Nat.zero_add _) (Nat.zero_add _) rfl ?_
  refine c_X8_isSlot (fun hw1 => ?_) (fun hw1 => ?_)
  · obtain ⟨sn, hsn, esn⟩ := wi_nI (H := 4) (by decide) (by decide) hw1
    subst esn
    have fsn : fN (nI sn) = sn := fN_nI (by omega)
    refine aw_re (S' := [.int 1]) rfl ?_
    refine aw_if_eq (npc := 7) (tgt := 41) dX8_lay_4 rfl (by decide) (fun hc => absurd hc (by decide)) (fun _ => ?_)
    refine aw_iload_n (npc := 8) rfl dX8_lay_7 rfl ?_
    refine aw_iconst (npc := 9) (v := 0) (by decide) dX8_lay_8 rfl ?_
    refine aw_iconst (npc := 10) (v := 3) (by decide) dX8_lay_9 rfl ?_
    refine aw_callS (npc := 13) (N := mX8_in) (mc := 0) (ms := 0) (A := [.int t, .int 0, .int 3]) (S := []) (L0 := [some (.int t), some (.int 0), some (.int 3)]) dX8_lay_10 rfl km_X8_in kk_X8_83 rfl ⟨rfl, by decide⟩ rfl (Nat.le_of_ble_eq_true rfl) (Nat.zero_add _) (Nat.zero_add _) rfl ?_
    refine c_X8_in (fun hw2 => ?_) (fun hw2 => ?_)
    · rcases wi_c0_3 hw2 with rfl | rfl | rfl | rfl
      · refine aw_re (S' := [.int 1]) rfl ?_
        refine aw_if_eq (npc := 16) (tgt := 41) dX8_lay_13 rfl (by decide) (fun hc => absurd hc (by decide)) (fun _ => ?_)
        refine aw_iload_n (npc := 17) rfl dX8_lay_16 rfl ?_
        refine aw_iconst (npc := 18) (v := 1) (by decide) dX8_lay_17 rfl ?_
        refine aw_icmp_ne (npc := 21) (tgt := 29) dX8_lay_18 rfl (by decide) (fun _ => ?_) (fun hc => absurd hc (by decide))
        refine aw_iload_n (npc := 30) rfl dX8_lay_29 rfl ?_
        refine aw_iconst (npc := 31) (v := 2) (by decide) dX8_lay_30 rfl ?_
        refine aw_icmp_ne (npc := 34) (tgt := 44) dX8_lay_31 rfl (by decide) (fun _ => ?_) (fun hc => absurd hc (by decide))
        refine aw_iload_n (npc := 45) rfl dX8_lay_44 rfl ?_
        refine aw_iconst (npc := 46) (v := 2) (by decide) dX8_lay_45 rfl ?_
        refine aw_icmp_ne (npc := 49) (tgt := 61) dX8_lay_46 rfl (by decide) (fun _ => ?_) (fun hc => absurd hc (by decide))
        refine aw_aload_n (npc := 62) rfl dX8_lay_61 rfl ?_
        refine aw_get (npc := 65) dX8_lay_62 rfl kf_X8_64 F.1 rfl ?_
        refine aw_iload_n (npc := 66) rfl dX8_lay_65 rfl ?_
        refine aw_iald (npc := 67) (x := (a 86) sn) (j := sn) dX8_lay_66 rfl F.2.2.2.2.2.2.2.2.2.2.2.2.2.2.2.2.2.1 (am_ix_nI (by omega)) (tl_at (by omega)) ?_
        refine aw_istore (npc := 69) (L' := [some (.ref 69), some (.int (nI sn)), some (.int 0), some (.int k), some (.int ((a 86) sn)), none]) dX8_lay_67 rfl (by decide) rfl rfl ?_
        refine aw_aload_n (npc := 70) rfl dX8_lay_69 rfl ?_
        refine aw_get (npc := 73) dX8_lay_70 rfl kf_X8_64 F.1 rfl ?_
        refine aw_iload_n (npc := 74) rfl dX8_lay_73 rfl ?_
        refine aw_iload_n (npc := 75) rfl dX8_lay_74 rfl ?_
        refine aw_iast (npc := 76) (j := sn) dX8_lay_75 rfl F.2.2.2.2.2.2.2.2.2.2.2.2.2.2.2.2.2.1 (am_ix_nI (by omega)) (by rw [tl_len]; omega) rfl ?_
        have F3 := mr_86 (j := sn) (v := 0) F
        refine aw_aload_n (npc := 77) rfl dX8_lay_76 rfl ?_
        refine aw_get (npc := 80) dX8_lay_77 rfl kf_X8_67 F3.1 rfl ?_
        refine aw_iload_n (npc := 81) rfl dX8_lay_80 rfl ?_
        refine aw_iload_n (npc := 82) rfl dX8_lay_81 rfl ?_
        refine aw_iconst (npc := 83) (v := 1) (by decide) dX8_lay_82 rfl ?_
        refine aw_icmp_ne (npc := 86) (tgt := 95) dX8_lay_83 rfl (by decide) (fun _ => ?_) (fun hc => absurd hc (by decide))
        refine aw_iload_n (npc := 96) rfl dX8_lay_95 rfl ?_
        refine aw_iconst (npc := 97) (v := 2) (by decide) dX8_lay_96 rfl ?_
        refine aw_icmp_ne (npc := 100) (tgt := 109) dX8_lay_97 rfl (by decide) (fun _ => ?_) (fun hc => absurd hc (by decide))
        refine aw_iload_n (npc := 110) rfl dX8_lay_109 rfl ?_
        refine aw_iast (npc := 111) (j := sn) dX8_lay_110 rfl F3.2.2.2.2.2.2.2.2.2.2.2.2.2.2.2.2.2.2.1 (am_ix_nI (by omega)) (by rw [tl_len]; omega) rfl ?_
        have F4 := mr_87 (j := sn) (v := k) F3
        refine aw_aload_n (npc := 112) rfl dX8_lay_111 rfl ?_
        refine aw_get (npc := 115) dX8_lay_112 rfl kf_X8_70 F4.1 rfl ?_
        refine aw_iload_n (npc := 116) rfl dX8_lay_115 rfl ?_
        refine aw_iload_n (npc := 117) rfl dX8_lay_116 rfl ?_
        refine aw_iconst (npc := 118) (v := 1) (by decide) dX8_lay_117 rfl ?_
        refine aw_icmp_ne (npc := 121) (tgt := 129) dX8_lay_118 rfl (by decide) (fun _ => ?_) (fun hc => absurd hc (by decide))
        refine aw_iconst (npc := 130) (v := 0) (by decide) dX8_lay_129 rfl ?_
        refine aw_iast (npc := 131) (j := sn) dX8_lay_130 rfl F4.2.2.2.2.2.2.2.2.2.2.2.2.2.2.2.2.2.2.2.1 (am_ix_nI (by omega)) (by rw [tl_len]; omega) rfl ?_
        have F5 := mr_88 (j := sn) (v := 0) F4
        refine aw_iconst (npc := 132) (v := 0) (by decide) dX8_lay_131 rfl ?_
        refine aw_istore (npc := 134) (L' := [some (.ref 69), some (.int (nI sn)), some (.int 0), some (.int k), some (.int ((a 86) sn)), some (.int 0)]) dX8_lay_132 rfl (by decide) rfl rfl ?_
        refine aw_iload (npc := 136) rfl dX8_lay_134 rfl ?_
        refine aw_bipush (npc := 138) (v := 24) (by decide) dX8_lay_136 rfl ?_
        refine aw_icmp_ge (npc := 141) (tgt := 176) dX8_lay_138 rfl (by decide) (fun hc => absurd hc (by decide)) (fun _ => ?_)
        refine aw_iload_n (npc := 142) rfl dX8_lay_141 rfl ?_
        refine aw_iconst (npc := 143) (v := 2) (by decide) dX8_lay_142 rfl ?_
        refine aw_icmp_ne (npc := 146) (tgt := 176) dX8_lay_143 rfl (by decide) (fun _ => ?_) (fun hc => absurd hc (by decide))
        refine aw_iload (npc := 178) rfl dX8_lay_176 rfl ?_
        refine aw_iret rfl dX8_lay_178 ?_
        exact hq _ _ _ (by simp [laB, laK, laV, laT, laH, laU, cI, hw1, hw2, fsn]) (by show upd (a 86) sn 0 = _; simp [laB, laK, laV, laT, laH, laU, cI, hw1, hw2, fsn]) (by show laM _ _ _ _ _ (a 84) (a 87) (upd (a 87) sn k); simp [laB, laK, laV, laT, laH, laU, laM, cI, hw1, hw2, fsn]) (by show laM2 _ _ _ _ _ (a 88) (upd (a 88) sn 0); simp [laB, laK, laV, laT, laH, laU, laM2, cI, hw1, hw2, fsn]) (by show a 89 = _; simp [laB, laK, laV, laT, laH, laU, cI, hw1, hw2, fsn]) (fun c h1 h2 h3 h4 => (aup_n h3).trans ((aup_n h2).trans (aup_n h1))) F5 (am_fpU (show ¬ (88 < 69 ∨ 92 ≤ 88) by omega) (am_fpU (show ¬ (87 < 69 ∨ 92 ≤ 87) by omega) (am_fpU (show ¬ (86 < 69 ∨ 92 ≤ 86) by omega) am_fp0)))
      · refine aw_re (S' := [.int 1]) rfl ?_
        refine aw_if_eq (npc := 16) (tgt := 41) dX8_lay_13 rfl (by decide) (fun hc => absurd hc (by decide)) (fun _ => ?_)
        refine aw_iload_n (npc := 17) rfl dX8_lay_16 rfl ?_
        refine aw_iconst (npc := 18) (v := 1) (by decide) dX8_lay_17 rfl ?_
        refine aw_icmp_ne (npc := 21) (tgt := 29) dX8_lay_18 rfl (by decide) (fun hc => absurd (by decide) hc) (fun _ => ?_)
        refine aw_aload_n (npc := 22) rfl dX8_lay_21 rfl ?_
        refine aw_iload_n (npc := 23) rfl dX8_lay_22 rfl ?_
        refine aw_callV (npc := 26) (N := mX8_isFriend) (b := 69) (mc := 0) (ms := 0) (A := [.int k]) (S := []) (L0 := [some (.ref 69), some (.int k)]) dX8_lay_23 rfl km_X8_isFriend kk_X8_114 F.1 ⟨by decide, rfl⟩ rfl ⟨rfl, by decide⟩ rfl (Nat.le_of_ble_eq_true rfl) (Nat.zero_add _) (Nat.zero_add _) rfl ?_
        refine m_isFriend F (fun hw6 => ?_) (fun hw6 => ?_)
        · obtain ⟨kn, hkn, ekn⟩ := wi_idx hR.1 (by have z := hR.2.1; omega) hw6
          subst ekn
          have h8kn : kn < 8 := by have z := hR.2.1; omega
          have fkn : fN (nI kn) = kn := fN_nI (by omega)
          refine aw_re (S' := [.int 1]) rfl ?_
          refine aw_if_eq (npc := 29) (tgt := 41) dX8_lay_26 rfl (by decide) (fun hc => absurd hc (by decide)) (fun _ => ?_)
          refine aw_iload_n (npc := 30) rfl dX8_lay_29 rfl ?_
          refine aw_iconst (npc := 31) (v := 2) (by decide) dX8_lay_30 rfl ?_
          refine aw_icmp_ne (npc := 34) (tgt := 44) dX8_lay_31 rfl (by decide) (fun _ => ?_) (fun hc => absurd hc (by decide))
          refine aw_iload_n (npc := 45) rfl dX8_lay_44 rfl ?_
          refine aw_iconst (npc := 46) (v := 2) (by decide) dX8_lay_45 rfl ?_
          refine aw_icmp_ne (npc := 49) (tgt := 61) dX8_lay_46 rfl (by decide) (fun _ => ?_) (fun hc => absurd hc (by decide))
          refine aw_aload_n (npc := 62) rfl dX8_lay_61 rfl ?_
          refine aw_get (npc := 65) dX8_lay_62 rfl kf_X8_64 F.1 rfl ?_
          refine aw_iload_n (npc := 66) rfl dX8_lay_65 rfl ?_
          refine aw_iald (npc := 67) (x := (a 86) sn) (j := sn) dX8_lay_66 rfl F.2.2.2.2.2.2.2.2.2.2.2.2.2.2.2.2.2.1 (am_ix_nI (by omega)) (tl_at (by omega)) ?_
          refine aw_istore (npc := 69) (L' := [some (.ref 69), some (.int (nI sn)), some (.int 1), some (.int (nI kn)), some (.int ((a 86) sn)), none]) dX8_lay_67 rfl (by decide) rfl rfl ?_
          refine aw_aload_n (npc := 70) rfl dX8_lay_69 rfl ?_
          refine aw_get (npc := 73) dX8_lay_70 rfl kf_X8_64 F.1 rfl ?_
          refine aw_iload_n (npc := 74) rfl dX8_lay_73 rfl ?_
          refine aw_iload_n (npc := 75) rfl dX8_lay_74 rfl ?_
          refine aw_iast (npc := 76) (j := sn) dX8_lay_75 rfl F.2.2.2.2.2.2.2.2.2.2.2.2.2.2.2.2.2.1 (am_ix_nI (by omega)) (by rw [tl_len]; omega) rfl ?_
          have F7 := mr_86 (j := sn) (v := 1) F
          refine aw_aload_n (npc := 77) rfl dX8_lay_76 rfl ?_
          refine aw_get (npc := 80) dX8_lay_77 rfl kf_X8_67 F7.1 rfl ?_
          refine aw_iload_n (npc := 81) rfl dX8_lay_80 rfl ?_
          refine aw_iload_n (npc := 82) rfl dX8_lay_81 rfl ?_
          refine aw_iconst (npc := 83) (v := 1) (by decide) dX8_lay_82 rfl ?_
          refine aw_icmp_ne (npc := 86) (tgt := 95) dX8_lay_83 rfl (by decide) (fun hc => absurd (by decide) hc) (fun _ => ?_)
          refine aw_aload_n (npc := 87) rfl dX8_lay_86 rfl ?_
          refine aw_iload_n (npc := 88) rfl dX8_lay_87 rfl ?_
          refine aw_iconst (npc := 89) (v := 0) (by decide) dX8_lay_88 rfl ?_
          refine aw_callV (npc := 92) (N := mX8_of) (b := 69) (mc := 0) (ms := 0) (A := [.int (nI kn), .int 0]) (S := [.int (nI sn), .ref 87]) (L0 := [some (.ref 69), some (.int (nI kn)), some (.int 0)]) dX8_lay_89 rfl km_X8_of kk_X8_101 F7.1 ⟨by decide, rfl⟩ rfl ⟨rfl, by decide⟩ rfl (Nat.le_of_ble_eq_true rfl) (Nat.zero_add _) (Nat.zero_add _) rfl ?_
          refine m_of0 (f := kn) F7 (by omega) ?_
          refine aw_re (S' := [.int (N (22 + 5 * kn)), .int (nI sn), .ref 87]) rfl ?_
          refine aw_goto (npc := 110) dX8_lay_92 (by decide) ?_
          refine aw_iast (npc := 111) (j := sn) dX8_lay_110 rfl F7.2.2.2.2.2.2.2.2.2.2.2.2.2.2.2.2.2.2.1 (am_ix_nI (by omega)) (by rw [tl_len]; omega) rfl ?_
          have F8 := mr_87 (j := sn) (v := N (22 + 5 * kn)) F7
          refine aw_aload_n (npc := 112) rfl dX8_lay_111 rfl ?_
          refine aw_get (npc := 115) dX8_lay_112 rfl kf_X8_70 F8.1 rfl ?_
          refine aw_iload_n (npc := 116) rfl dX8_lay_115 rfl ?_
          refine aw_iload_n (npc := 117) rfl dX8_lay_116 rfl ?_
          refine aw_iconst (npc := 118) (v := 1) (by decide) dX8_lay_117 rfl ?_
          refine aw_icmp_ne (npc := 121) (tgt := 129) dX8_lay_118 rfl (by decide) (fun hc => absurd (by decide) hc) (fun _ => ?_)
          refine aw_aload_n (npc := 122) rfl dX8_lay_121 rfl ?_
          refine aw_iload_n (npc := 123) rfl dX8_lay_122 rfl ?_
          refine aw_callV (npc := 126) (N := mX8_worthOf) (b := 69) (mc := 0) (ms := 0) (A := [.int (nI kn)]) (S := [.int (nI sn), .ref 88]) (L0 := [some (.ref 69), some (.int (nI kn)), none]) dX8_lay_123 rfl km_X8_worthOf kk_X8_127 F8.1 ⟨by decide, rfl⟩ rfl ⟨rfl, by decide⟩ rfl (Nat.le_of_ble_eq_true rfl) (Nat.zero_add _) (Nat.zero_add _) rfl ?_
          refine m_worthOf (f := kn) F8 (by omega) (hR.2.2.2.2.1 kn (by omega)).1 ?_
          refine aw_re (S' := [.int (wort (N (22 + 5 * kn)) (N (24 + 5 * kn))), .int (nI sn), .ref 88]) rfl ?_
          refine aw_goto (npc := 130) dX8_lay_126 (by decide) ?_
          refine aw_iast (npc := 131) (j := sn) dX8_lay_130 rfl F8.2.2.2.2.2.2.2.2.2.2.2.2.2.2.2.2.2.2.2.1 (am_ix_nI (by omega)) (by rw [tl_len]; omega) rfl ?_
          have F9 := mr_88 (j := sn) (v := wort (N (22 + 5 * kn)) (N (24 + 5 * kn))) F8
          refine aw_iconst (npc := 132) (v := 0) (by decide) dX8_lay_131 rfl ?_
          refine aw_istore (npc := 134) (L' := [some (.ref 69), some (.int (nI sn)), some (.int 1), some (.int (nI kn)), some (.int ((a 86) sn)), some (.int 0)]) dX8_lay_132 rfl (by decide) rfl rfl ?_
          refine aw_iload (npc := 136) rfl dX8_lay_134 rfl ?_
          refine aw_bipush (npc := 138) (v := 24) (by decide) dX8_lay_136 rfl ?_
          refine aw_icmp_ge (npc := 141) (tgt := 176) dX8_lay_138 rfl (by decide) (fun hc => absurd hc (by decide)) (fun _ => ?_)
          refine aw_iload_n (npc := 142) rfl dX8_lay_141 rfl ?_
          refine aw_iconst (npc := 143) (v := 2) (by decide) dX8_lay_142 rfl ?_
          refine aw_icmp_ne (npc := 146) (tgt := 176) dX8_lay_143 rfl (by decide) (fun _ => ?_) (fun hc => absurd hc (by decide))
          refine aw_iload (npc := 178) rfl dX8_lay_176 rfl ?_
          refine aw_iret rfl dX8_lay_178 ?_
          exact hq _ _ _ (by simp [laB, laK, laV, laT, laH, laU, cI, hw1, hw2, hw6, fsn, fkn]) (by show upd (a 86) sn 1 = _; simp [laB, laK, laV, laT, laH, laU, cI, hw1, hw2, hw6, fsn, fkn]) (by show laM _ _ _ _ _ (a 84) (a 87) (upd (a 87) sn (N (22 + 5 * kn))); simp [laB, laK, laV, laT, laH, laU, laM, cI, hw1, hw2, hw6, fsn, fkn]) (by show laM2 _ _ _ _ _ (a 88) (upd (a 88) sn (wort (N (22 + 5 * kn)) (N (24 + 5 * kn)))); simp [laB, laK, laV, laT, laH, laU, laM2, cI, hw1, hw2, hw6, fsn, fkn]) (by show a 89 = _; simp [laB, laK, laV, laT, laH, laU, cI, hw1, hw2, hw6, fsn, fkn]) (fun c h1 h2 h3 h4 => (aup_n h3).trans ((aup_n h2).trans (aup_n h1))) F9 (am_fpU (show ¬ (88 < 69 ∨ 92 ≤ 88) by omega) (am_fpU (show ¬ (87 < 69 ∨ 92 ≤ 87) by omega) (am_fpU (show ¬ (86 < 69 ∨ 92 ≤ 86) by omega) am_fp0)))
        · refine aw_re (S' := [.int 0]) rfl ?_
          refine aw_if_eq (npc := 29) (tgt := 41) dX8_lay_26 rfl (by decide) (fun _ => ?_) (fun hc => absurd (by decide) hc)
          refine aw_ldc (npc := 43) kc_X8_91 dX8_lay_41 rfl ?_
          refine aw_iret rfl dX8_lay_43 ?_
          exact hq _ _ _ (by simp [laB, laK, laV, laT, laH, laU, cI, hw1, hw2, hw6, fsn]) (by simp [laB, laK, laV, laT, laH, laU, cI, hw1, hw2, hw6, fsn]) (by simp [laB, laK, laV, laT, laH, laU, laM, cI, hw1, hw2, hw6, fsn]) (by simp [laB, laK, laV, laT, laH, laU, laM2, cI, hw1, hw2, hw6, fsn]) (by simp [laB, laK, laV, laT, laH, laU, cI, hw1, hw2, hw6, fsn]) (fun _ _ _ _ _ => rfl) F am_fp0
      · refine aw_re (S' := [.int 1]) rfl ?_
        refine aw_if_eq (npc := 16) (tgt := 41) dX8_lay_13 rfl (by decide) (fun hc => absurd hc (by decide)) (fun _ => ?_)
        refine aw_iload_n (npc := 17) rfl dX8_lay_16 rfl ?_
        refine aw_iconst (npc := 18) (v := 1) (by decide) dX8_lay_17 rfl ?_
        refine aw_icmp_ne (npc := 21) (tgt := 29) dX8_lay_18 rfl (by decide) (fun _ => ?_) (fun hc => absurd hc (by decide))
        refine aw_iload_n (npc := 30) rfl dX8_lay_29 rfl ?_
        refine aw_iconst (npc := 31) (v := 2) (by decide) dX8_lay_30 rfl ?_
        refine aw_icmp_ne (npc := 34) (tgt := 44) dX8_lay_31 rfl (by decide) (fun hc => absurd (by decide) hc) (fun _ => ?_)
        refine aw_iload_n (npc := 35) rfl dX8_lay_34 rfl ?_
        refine aw_callS (npc := 38) (N := mX8_isSheet) (mc := 0) (ms := 0) (A := [.int k]) (S := []) (L0 := [some (.int k)]) dX8_lay_35 rfl km_X8_isSheet kk_X8_184 rfl ⟨rfl, by decide⟩ rfl (Nat.le_of_ble_eq_true rfl) (Nat.zero_add _) (Nat.zero_add _) rfl ?_
        refine c_X8_isSheet (fun hw10 => ?_) (fun hw10 => ?_)
        · obtain ⟨kn, hkn, ekn⟩ := wi_nI (H := 3) (by decide) (by decide) hw10
          subst ekn
          have fkn : fN (nI kn) = kn := fN_nI (by omega)
          obtain ⟨hsr, z9, hz9, ez9⟩ := hI kn (by omega)
          refine aw_re (S' := [.int 1]) rfl ?_
          refine aw_if_ne (npc := 41) (tgt := 44) dX8_lay_38 rfl (by decide) (fun _ => ?_) (fun hc => absurd hc (by decide))
          refine aw_iload_n (npc := 45) rfl dX8_lay_44 rfl ?_
          refine aw_iconst (npc := 46) (v := 2) (by decide) dX8_lay_45 rfl ?_
          refine aw_icmp_ne (npc := 49) (tgt := 61) dX8_lay_46 rfl (by decide) (fun hc => absurd (by decide) hc) (fun _ => ?_)
          refine aw_aload_n (npc := 50) rfl dX8_lay_49 rfl ?_
          refine aw_get (npc := 53) dX8_lay_50 rfl kf_X8_55 F.1 rfl ?_
          refine aw_iload_n (npc := 54) rfl dX8_lay_53 rfl ?_
          refine aw_iald (npc := 55) (x := (a 83) kn) (j := kn) dX8_lay_54 rfl F.2.2.2.2.2.2.2.2.2.2.2.2.2.2.1 (am_ix_nI (by omega)) (tl_at (by omega)) ?_
          rcases wi_cm1_1 hsr with esr | esr | esr
          · refine aw_top (y := -1) esr ?_
            refine aw_if_ge (npc := 58) (tgt := 61) dX8_lay_55 rfl (by decide) (fun hc => absurd hc (by decide)) (fun _ => ?_)
            refine aw_ldc (npc := 60) kc_X8_187 dX8_lay_58 rfl ?_
            refine aw_iret rfl dX8_lay_60 ?_
            exact hq _ _ _ (by simp [laB, laK, laV, laT, laH, laU, cI, hw1, hw2, hw10, fsn, fkn, esr]) (by simp [laB, laK, laV, laT, laH, laU, cI, hw1, hw2, hw10, fsn, fkn, esr]) (by simp [laB, laK, laV, laT, laH, laU, laM, cI, hw1, hw2, hw10, fsn, fkn, esr]) (by simp [laB, laK, laV, laT, laH, laU, laM2, cI, hw1, hw2, hw10, fsn, fkn, esr]) (by simp [laB, laK, laV, laT, laH, laU, cI, hw1, hw2, hw10, fsn, fkn, esr]) (fun _ _ _ _ _ => rfl) F am_fp0
          · refine aw_top (y := 0) esr ?_
            refine aw_if_ge (npc := 58) (tgt := 61) dX8_lay_55 rfl (by decide) (fun _ => ?_) (fun hc => absurd (by decide) hc)
            refine aw_aload_n (npc := 62) rfl dX8_lay_61 rfl ?_
            refine aw_get (npc := 65) dX8_lay_62 rfl kf_X8_64 F.1 rfl ?_
            refine aw_iload_n (npc := 66) rfl dX8_lay_65 rfl ?_
            refine aw_iald (npc := 67) (x := (a 86) sn) (j := sn) dX8_lay_66 rfl F.2.2.2.2.2.2.2.2.2.2.2.2.2.2.2.2.2.1 (am_ix_nI (by omega)) (tl_at (by omega)) ?_
            refine aw_istore (npc := 69) (L' := [some (.ref 69), some (.int (nI sn)), some (.int 2), some (.int (nI kn)), some (.int ((a 86) sn)), none]) dX8_lay_67 rfl (by decide) rfl rfl ?_
            refine aw_aload_n (npc := 70) rfl dX8_lay_69 rfl ?_
            refine aw_get (npc := 73) dX8_lay_70 rfl kf_X8_64 F.1 rfl ?_
            refine aw_iload_n (npc := 74) rfl dX8_lay_73 rfl ?_
            refine aw_iload_n (npc := 75) rfl dX8_lay_74 rfl ?_
            refine aw_iast (npc := 76) (j := sn) dX8_lay_75 rfl F.2.2.2.2.2.2.2.2.2.2.2.2.2.2.2.2.2.1 (am_ix_nI (by omega)) (by rw [tl_len]; omega) rfl ?_
            have F11 := mr_86 (j := sn) (v := 2) F
            refine aw_aload_n (npc := 77) rfl dX8_lay_76 rfl ?_
            refine aw_get (npc := 80) dX8_lay_77 rfl kf_X8_67 F11.1 rfl ?_
            refine aw_iload_n (npc := 81) rfl dX8_lay_80 rfl ?_
            refine aw_iload_n (npc := 82) rfl dX8_lay_81 rfl ?_
            refine aw_iconst (npc := 83) (v := 1) (by decide) dX8_lay_82 rfl ?_
            refine aw_icmp_ne (npc := 86) (tgt := 95) dX8_lay_83 rfl (by decide) (fun _ => ?_) (fun hc => absurd hc (by decide))
            refine aw_iload_n (npc := 96) rfl dX8_lay_95 rfl ?_
            refine aw_iconst (npc := 97) (v := 2) (by decide) dX8_lay_96 rfl ?_
            refine aw_icmp_ne (npc := 100) (tgt := 109) dX8_lay_97 rfl (by decide) (fun hc => absurd (by decide) hc) (fun _ => ?_)
            refine aw_aload_n (npc := 101) rfl dX8_lay_100 rfl ?_
            refine aw_get (npc := 104) dX8_lay_101 rfl kf_X8_58 F11.1 rfl ?_
            refine aw_iload_n (npc := 105) rfl dX8_lay_104 rfl ?_
            refine aw_iald (npc := 106) (x := (a 84) kn) (j := kn) dX8_lay_105 rfl F11.2.2.2.2.2.2.2.2.2.2.2.2.2.2.2.1 (am_ix_nI (by omega)) (tl_at (by omega)) ?_
            refine aw_goto (npc := 110) dX8_lay_106 (by decide) ?_
            refine aw_iast (npc := 111) (j := sn) dX8_lay_110 rfl F11.2.2.2.2.2.2.2.2.2.2.2.2.2.2.2.2.2.2.1 (am_ix_nI (by omega)) (by rw [tl_len]; omega) rfl ?_
            have F12 := mr_87 (j := sn) (v := (a 84) kn) F11
            refine aw_aload_n (npc := 112) rfl dX8_lay_111 rfl ?_
            refine aw_get (npc := 115) dX8_lay_112 rfl kf_X8_70 F12.1 rfl ?_
            refine aw_iload_n (npc := 116) rfl dX8_lay_115 rfl ?_
            refine aw_iload_n (npc := 117) rfl dX8_lay_116 rfl ?_
            refine aw_iconst (npc := 118) (v := 1) (by decide) dX8_lay_117 rfl ?_
            refine aw_icmp_ne (npc := 121) (tgt := 129) dX8_lay_118 rfl (by decide) (fun _ => ?_) (fun hc => absurd hc (by decide))
            refine aw_iconst (npc := 130) (v := 0) (by decide) dX8_lay_129 rfl ?_
            refine aw_iast (npc := 131) (j := sn) dX8_lay_130 rfl F12.2.2.2.2.2.2.2.2.2.2.2.2.2.2.2.2.2.2.2.1 (am_ix_nI (by omega)) (by rw [tl_len]; omega) rfl ?_
            have F13 := mr_88 (j := sn) (v := 0) F12
            refine aw_iconst (npc := 132) (v := 0) (by decide) dX8_lay_131 rfl ?_
            refine aw_istore (npc := 134) (L' := [some (.ref 69), some (.int (nI sn)), some (.int 2), some (.int (nI kn)), some (.int ((a 86) sn)), some (.int 0)]) dX8_lay_132 rfl (by decide) rfl rfl ?_
            refine aw_locs (L' := [some (.ref 69), some (.int (nI sn)), some (.int 2), some (.int (nI kn)), some (.int ((a 86) sn)), some (.int (nI 0))]) rfl ?_
            refine m_layL (s := sn) (k := kn) (a0 := aup (aup (aup a 86 sn 2) 87 sn ((a 84) kn)) 88 sn 0) (by omega) (by omega) 24 0 (by omega) _ _ F13 cpT_0.symm (fun _ _ => rfl) (fun a9 h9 M9 e9 c9 f9 => ?_)
            refine aw_iload (npc := 178) rfl dX8_lay_176 rfl ?_
            refine aw_iret rfl dX8_lay_178 ?_
            have q6 := c9 86 (by decide)
            have q7 := c9 87 (by decide)
            have q8 := c9 88 (by decide)
            have qn : ∀ c, c ≠ 86 → c ≠ 87 → c ≠ 88 → c ≠ 89 → a9 c = a c := fun c h1 h2 h3 h4 => (c9 c h4).trans ((aup_n h3).trans ((aup_n h2).trans (aup_n h1)))
            have q9 : a9 89 = cpS (a 89) (a 85) sn kn := e9
            exact hq _ _ _ (by simp [laB, laK, laV, laT, laH, laU, cI, hw1, hw2, hw10, fsn, fkn, esr]) (by rw [q6]; show upd (a 86) sn 2 = _; simp [laB, laK, laV, laT, laH, laU, cI, hw1, hw2, hw10, fsn, fkn, esr]) (by rw [q7]; show laM _ _ _ _ _ (a 84) (a 87) (upd (a 87) sn (a 84 kn)) ; simp [laB, laK, laV, laT, laH, laU, laM, cI, hw1, hw2, hw10, fsn, fkn, esr]) (by rw [q8]; show laM2 _ _ _ _ _ (a 88) (upd (a 88) sn 0); simp [laB, laK, laV, laT, laH, laU, laM2, cI, hw1, hw2, hw10, fsn, fkn, esr]) (by rw [q9]; simp [laB, laK, laV, laT, laH, laU, cI, hw1, hw2, hw10, fsn, fkn, esr]) qn M9 (am_fpT f9 (am_fpU (show ¬ (88 < 69 ∨ 92 ≤ 88) by omega) (am_fpU (show ¬ (87 < 69 ∨ 92 ≤ 87) by omega) (am_fpU (show ¬ (86 < 69 ∨ 92 ≤ 86) by omega) am_fp0))))
          · refine aw_top (y := 1) esr ?_
            refine aw_if_ge (npc := 58) (tgt := 61) dX8_lay_55 rfl (by decide) (fun _ => ?_) (fun hc => absurd (by decide) hc)
            refine aw_aload_n (npc := 62) rfl dX8_lay_61 rfl ?_
            refine aw_get (npc := 65) dX8_lay_62 rfl kf_X8_64 F.1 rfl ?_
            refine aw_iload_n (npc := 66) rfl dX8_lay_65 rfl ?_
            refine aw_iald (npc := 67) (x := (a 86) sn) (j := sn) dX8_lay_66 rfl F.2.2.2.2.2.2.2.2.2.2.2.2.2.2.2.2.2.1 (am_ix_nI (by omega)) (tl_at (by omega)) ?_
            refine aw_istore (npc := 69) (L' := [some (.ref 69), some (.int (nI sn)), some (.int 2), some (.int (nI kn)), some (.int ((a 86) sn)), none]) dX8_lay_67 rfl (by decide) rfl rfl ?_
            refine aw_aload_n (npc := 70) rfl dX8_lay_69 rfl ?_
            refine aw_get (npc := 73) dX8_lay_70 rfl kf_X8_64 F.1 rfl ?_
            refine aw_iload_n (npc := 74) rfl dX8_lay_73 rfl ?_
            refine aw_iload_n (npc := 75) rfl dX8_lay_74 rfl ?_
            refine aw_iast (npc := 76) (j := sn) dX8_lay_75 rfl F.2.2.2.2.2.2.2.2.2.2.2.2.2.2.2.2.2.1 (am_ix_nI (by omega)) (by rw [tl_len]; omega) rfl ?_
            have F14 := mr_86 (j := sn) (v := 2) F
            refine aw_aload_n (npc := 77) rfl dX8_lay_76 rfl ?_
            refine aw_get (npc := 80) dX8_lay_77 rfl kf_X8_67 F14.1 rfl ?_
            refine aw_iload_n (npc := 81) rfl dX8_lay_80 rfl ?_
            refine aw_iload_n (npc := 82) rfl dX8_lay_81 rfl ?_
            refine aw_iconst (npc := 83) (v := 1) (by decide) dX8_lay_82 rfl ?_
            refine aw_icmp_ne (npc := 86) (tgt := 95) dX8_lay_83 rfl (by decide) (fun _ => ?_) (fun hc => absurd hc (by decide))
            refine aw_iload_n (npc := 96) rfl dX8_lay_95 rfl ?_
            refine aw_iconst (npc := 97) (v := 2) (by decide) dX8_lay_96 rfl ?_
            refine aw_icmp_ne (npc := 100) (tgt := 109) dX8_lay_97 rfl (by decide) (fun hc => absurd (by decide) hc) (fun _ => ?_)
            refine aw_aload_n (npc := 101) rfl dX8_lay_100 rfl ?_
            refine aw_get (npc := 104) dX8_lay_101 rfl kf_X8_58 F14.1 rfl ?_
            refine aw_iload_n (npc := 105) rfl dX8_lay_104 rfl ?_
            refine aw_iald (npc := 106) (x := (a 84) kn) (j := kn) dX8_lay_105 rfl F14.2.2.2.2.2.2.2.2.2.2.2.2.2.2.2.1 (am_ix_nI (by omega)) (tl_at (by omega)) ?_
            refine aw_goto (npc := 110) dX8_lay_106 (by decide) ?_
            refine aw_iast (npc := 111) (j := sn) dX8_lay_110 rfl F14.2.2.2.2.2.2.2.2.2.2.2.2.2.2.2.2.2.2.1 (am_ix_nI (by omega)) (by rw [tl_len]; omega) rfl ?_
            have F15 := mr_87 (j := sn) (v := (a 84) kn) F14
            refine aw_aload_n (npc := 112) rfl dX8_lay_111 rfl ?_
            refine aw_get (npc := 115) dX8_lay_112 rfl kf_X8_70 F15.1 rfl ?_
            refine aw_iload_n (npc := 116) rfl dX8_lay_115 rfl ?_
            refine aw_iload_n (npc := 117) rfl dX8_lay_116 rfl ?_
            refine aw_iconst (npc := 118) (v := 1) (by decide) dX8_lay_117 rfl ?_
            refine aw_icmp_ne (npc := 121) (tgt := 129) dX8_lay_118 rfl (by decide) (fun _ => ?_) (fun hc => absurd hc (by decide))
            refine aw_iconst (npc := 130) (v := 0) (by decide) dX8_lay_129 rfl ?_
            refine aw_iast (npc := 131) (j := sn) dX8_lay_130 rfl F15.2.2.2.2.2.2.2.2.2.2.2.2.2.2.2.2.2.2.2.1 (am_ix_nI (by omega)) (by rw [tl_len]; omega) rfl ?_
            have F16 := mr_88 (j := sn) (v := 0) F15
            refine aw_iconst (npc := 132) (v := 0) (by decide) dX8_lay_131 rfl ?_
            refine aw_istore (npc := 134) (L' := [some (.ref 69), some (.int (nI sn)), some (.int 2), some (.int (nI kn)), some (.int ((a 86) sn)), some (.int 0)]) dX8_lay_132 rfl (by decide) rfl rfl ?_
            refine aw_locs (L' := [some (.ref 69), some (.int (nI sn)), some (.int 2), some (.int (nI kn)), some (.int ((a 86) sn)), some (.int (nI 0))]) rfl ?_
            refine m_layL (s := sn) (k := kn) (a0 := aup (aup (aup a 86 sn 2) 87 sn ((a 84) kn)) 88 sn 0) (by omega) (by omega) 24 0 (by omega) _ _ F16 cpT_0.symm (fun _ _ => rfl) (fun a9 h9 M9 e9 c9 f9 => ?_)
            refine aw_iload (npc := 178) rfl dX8_lay_176 rfl ?_
            refine aw_iret rfl dX8_lay_178 ?_
            have q6 := c9 86 (by decide)
            have q7 := c9 87 (by decide)
            have q8 := c9 88 (by decide)
            have qn : ∀ c, c ≠ 86 → c ≠ 87 → c ≠ 88 → c ≠ 89 → a9 c = a c := fun c h1 h2 h3 h4 => (c9 c h4).trans ((aup_n h3).trans ((aup_n h2).trans (aup_n h1)))
            have q9 : a9 89 = cpS (a 89) (a 85) sn kn := e9
            exact hq _ _ _ (by simp [laB, laK, laV, laT, laH, laU, cI, hw1, hw2, hw10, fsn, fkn, esr]) (by rw [q6]; show upd (a 86) sn 2 = _; simp [laB, laK, laV, laT, laH, laU, cI, hw1, hw2, hw10, fsn, fkn, esr]) (by rw [q7]; show laM _ _ _ _ _ (a 84) (a 87) (upd (a 87) sn (a 84 kn)) ; simp [laB, laK, laV, laT, laH, laU, laM, cI, hw1, hw2, hw10, fsn, fkn, esr]) (by rw [q8]; show laM2 _ _ _ _ _ (a 88) (upd (a 88) sn 0); simp [laB, laK, laV, laT, laH, laU, laM2, cI, hw1, hw2, hw10, fsn, fkn, esr]) (by rw [q9]; simp [laB, laK, laV, laT, laH, laU, cI, hw1, hw2, hw10, fsn, fkn, esr]) qn M9 (am_fpT f9 (am_fpU (show ¬ (88 < 69 ∨ 92 ≤ 88) by omega) (am_fpU (show ¬ (87 < 69 ∨ 92 ≤ 87) by omega) (am_fpU (show ¬ (86 < 69 ∨ 92 ≤ 86) by omega) am_fp0))))
        · refine aw_re (S' := [.int 0]) rfl ?_
          refine aw_if_ne (npc := 41) (tgt := 44) dX8_lay_38 rfl (by decide) (fun hc => absurd (by decide) hc) (fun _ => ?_)
          refine aw_ldc (npc := 43) kc_X8_91 dX8_lay_41 rfl ?_
          refine aw_iret rfl dX8_lay_43 ?_
          exact hq _ _ _ (by simp [laB, laK, laV, laT, laH, laU, cI, hw1, hw2, hw10, fsn]) (by simp [laB, laK, laV, laT, laH, laU, cI, hw1, hw2, hw10, fsn]) (by simp [laB, laK, laV, laT, laH, laU, laM, cI, hw1, hw2, hw10, fsn]) (by simp [laB, laK, laV, laT, laH, laU, laM2, cI, hw1, hw2, hw10, fsn]) (by simp [laB, laK, laV, laT, laH, laU, cI, hw1, hw2, hw10, fsn]) (fun _ _ _ _ _ => rfl) F am_fp0
      · refine aw_re (S' := [.int 1]) rfl ?_
        refine aw_if_eq (npc := 16) (tgt := 41) dX8_lay_13 rfl (by decide) (fun hc => absurd hc (by decide)) (fun _ => ?_)
        refine aw_iload_n (npc := 17) rfl dX8_lay_16 rfl ?_
        refine aw_iconst (npc := 18) (v := 1) (by decide) dX8_lay_17 rfl ?_
        refine aw_icmp_ne (npc := 21) (tgt := 29) dX8_lay_18 rfl (by decide) (fun _ => ?_) (fun hc => absurd hc (by decide))
        refine aw_iload_n (npc := 30) rfl dX8_lay_29 rfl ?_
        refine aw_iconst (npc := 31) (v := 2) (by decide) dX8_lay_30 rfl ?_
        refine aw_icmp_ne (npc := 34) (tgt := 44) dX8_lay_31 rfl (by decide) (fun _ => ?_) (fun hc => absurd hc (by decide))
        refine aw_iload_n (npc := 45) rfl dX8_lay_44 rfl ?_
        refine aw_iconst (npc := 46) (v := 2) (by decide) dX8_lay_45 rfl ?_
        refine aw_icmp_ne (npc := 49) (tgt := 61) dX8_lay_46 rfl (by decide) (fun _ => ?_) (fun hc => absurd hc (by decide))
        refine aw_aload_n (npc := 62) rfl dX8_lay_61 rfl ?_
        refine aw_get (npc := 65) dX8_lay_62 rfl kf_X8_64 F.1 rfl ?_
        refine aw_iload_n (npc := 66) rfl dX8_lay_65 rfl ?_
        refine aw_iald (npc := 67) (x := (a 86) sn) (j := sn) dX8_lay_66 rfl F.2.2.2.2.2.2.2.2.2.2.2.2.2.2.2.2.2.1 (am_ix_nI (by omega)) (tl_at (by omega)) ?_
        refine aw_istore (npc := 69) (L' := [some (.ref 69), some (.int (nI sn)), some (.int 3), some (.int k), some (.int ((a 86) sn)), none]) dX8_lay_67 rfl (by decide) rfl rfl ?_
        refine aw_aload_n (npc := 70) rfl dX8_lay_69 rfl ?_
        refine aw_get (npc := 73) dX8_lay_70 rfl kf_X8_64 F.1 rfl ?_
        refine aw_iload_n (npc := 74) rfl dX8_lay_73 rfl ?_
        refine aw_iload_n (npc := 75) rfl dX8_lay_74 rfl ?_
        refine aw_iast (npc := 76) (j := sn) dX8_lay_75 rfl F.2.2.2.2.2.2.2.2.2.2.2.2.2.2.2.2.2.1 (am_ix_nI (by omega)) (by rw [tl_len]; omega) rfl ?_
        have F17 := mr_86 (j := sn) (v := 3) F
        refine aw_aload_n (npc := 77) rfl dX8_lay_76 rfl ?_
        refine aw_get (npc := 80) dX8_lay_77 rfl kf_X8_67 F17.1 rfl ?_
        refine aw_iload_n (npc := 81) rfl dX8_lay_80 rfl ?_
        refine aw_iload_n (npc := 82) rfl dX8_lay_81 rfl ?_
        refine aw_iconst (npc := 83) (v := 1) (by decide) dX8_lay_82 rfl ?_
        refine aw_icmp_ne (npc := 86) (tgt := 95) dX8_lay_83 rfl (by decide) (fun _ => ?_) (fun hc => absurd hc (by decide))
        refine aw_iload_n (npc := 96) rfl dX8_lay_95 rfl ?_
        refine aw_iconst (npc := 97) (v := 2) (by decide) dX8_lay_96 rfl ?_
        refine aw_icmp_ne (npc := 100) (tgt := 109) dX8_lay_97 rfl (by decide) (fun _ => ?_) (fun hc => absurd hc (by decide))
        refine aw_iload_n (npc := 110) rfl dX8_lay_109 rfl ?_
        refine aw_iast (npc := 111) (j := sn) dX8_lay_110 rfl F17.2.2.2.2.2.2.2.2.2.2.2.2.2.2.2.2.2.2.1 (am_ix_nI (by omega)) (by rw [tl_len]; omega) rfl ?_
        have F18 := mr_87 (j := sn) (v := k) F17
        refine aw_aload_n (npc := 112) rfl dX8_lay_111 rfl ?_
        refine aw_get (npc := 115) dX8_lay_112 rfl kf_X8_70 F18.1 rfl ?_
        refine aw_iload_n (npc := 116) rfl dX8_lay_115 rfl ?_
        refine aw_iload_n (npc := 117) rfl dX8_lay_116 rfl ?_
        refine aw_iconst (npc := 118) (v := 1) (by decide) dX8_lay_117 rfl ?_
        refine aw_icmp_ne (npc := 121) (tgt := 129) dX8_lay_118 rfl (by decide) (fun _ => ?_) (fun hc => absurd hc (by decide))
        refine aw_iconst (npc := 130) (v := 0) (by decide) dX8_lay_129 rfl ?_
        refine aw_iast (npc := 131) (j := sn) dX8_lay_130 rfl F18.2.2.2.2.2.2.2.2.2.2.2.2.2.2.2.2.2.2.2.1 (am_ix_nI (by omega)) (by rw [tl_len]; omega) rfl ?_
        have F19 := mr_88 (j := sn) (v := 0) F18
        refine aw_iconst (npc := 132) (v := 0) (by decide) dX8_lay_131 rfl ?_
        refine aw_istore (npc := 134) (L' := [some (.ref 69), some (.int (nI sn)), some (.int 3), some (.int k), some (.int ((a 86) sn)), some (.int 0)]) dX8_lay_132 rfl (by decide) rfl rfl ?_
        refine aw_iload (npc := 136) rfl dX8_lay_134 rfl ?_
        refine aw_bipush (npc := 138) (v := 24) (by decide) dX8_lay_136 rfl ?_
        refine aw_icmp_ge (npc := 141) (tgt := 176) dX8_lay_138 rfl (by decide) (fun hc => absurd hc (by decide)) (fun _ => ?_)
        refine aw_iload_n (npc := 142) rfl dX8_lay_141 rfl ?_
        refine aw_iconst (npc := 143) (v := 2) (by decide) dX8_lay_142 rfl ?_
        refine aw_icmp_ne (npc := 146) (tgt := 176) dX8_lay_143 rfl (by decide) (fun _ => ?_) (fun hc => absurd hc (by decide))
        refine aw_iload (npc := 178) rfl dX8_lay_176 rfl ?_
        refine aw_iret rfl dX8_lay_178 ?_
        exact hq _ _ _ (by simp [laB, laK, laV, laT, laH, laU, cI, hw1, hw2, fsn]) (by show upd (a 86) sn 3 = _; simp [laB, laK, laV, laT, laH, laU, cI, hw1, hw2, fsn]) (by show laM _ _ _ _ _ (a 84) (a 87) (upd (a 87) sn k); simp [laB, laK, laV, laT, laH, laU, laM, cI, hw1, hw2, fsn]) (by show laM2 _ _ _ _ _ (a 88) (upd (a 88) sn 0); simp [laB, laK, laV, laT, laH, laU, laM2, cI, hw1, hw2, fsn]) (by show a 89 = _; simp [laB, laK, laV, laT, laH, laU, cI, hw1, hw2, fsn]) (fun c h1 h2 h3 h4 => (aup_n h3).trans ((aup_n h2).trans (aup_n h1))) F19 (am_fpU (show ¬ (88 < 69 ∨ 92 ≤ 88) by omega) (am_fpU (show ¬ (87 < 69 ∨ 92 ≤ 87) by omega) (am_fpU (show ¬ (86 < 69 ∨ 92 ≤ 86) by omega) am_fp0)))
    · refine aw_re (S' := [.int 0]) rfl ?_
      refine aw_if_eq (npc := 16) (tgt := 41) dX8_lay_13 rfl (by decide) (fun _ => ?_) (fun hc => absurd (by decide) hc)
      refine aw_ldc (npc := 43) kc_X8_91 dX8_lay_41 rfl ?_
      refine aw_iret rfl dX8_lay_43 ?_
      exact hq _ _ _ (by simp [laB, laK, laV, laT, laH, laU, cI, hw1, hw2, fsn, nwi_1 hw2 (k := 0) ⟨by decide, by decide⟩, nwi_1 hw2 (k := 1) ⟨by decide, by decide⟩, nwi_1 hw2 (k := 2) ⟨by decide, by decide⟩, nwi_1 hw2 (k := 3) ⟨by decide, by decide⟩]) (by simp [laB, laK, laV, laT, laH, laU, cI, hw1, hw2, fsn, nwi_1 hw2 (k := 0) ⟨by decide, by decide⟩, nwi_1 hw2 (k := 1) ⟨by decide, by decide⟩, nwi_1 hw2 (k := 2) ⟨by decide, by decide⟩, nwi_1 hw2 (k := 3) ⟨by decide, by decide⟩]) (by simp [laB, laK, laV, laT, laH, laU, laM, cI, hw1, hw2, fsn, nwi_1 hw2 (k := 0) ⟨by decide, by decide⟩, nwi_1 hw2 (k := 1) ⟨by decide, by decide⟩, nwi_1 hw2 (k := 2) ⟨by decide, by decide⟩, nwi_1 hw2 (k := 3) ⟨by decide, by decide⟩]) (by simp [laB, laK, laV, laT, laH, laU, laM2, cI, hw1, hw2, fsn, nwi_1 hw2 (k := 0) ⟨by decide, by decide⟩, nwi_1 hw2 (k := 1) ⟨by decide, by decide⟩, nwi_1 hw2 (k := 2) ⟨by decide, by decide⟩, nwi_1 hw2 (k := 3) ⟨by decide, by decide⟩]) (by simp [laB, laK, laV, laT, laH, laU, cI, hw1, hw2, fsn, nwi_1 hw2 (k := 0) ⟨by decide, by decide⟩, nwi_1 hw2 (k := 1) ⟨by decide, by decide⟩, nwi_1 hw2 (k := 2) ⟨by decide, by decide⟩, nwi_1 hw2 (k := 3) ⟨by decide, by decide⟩]) (fun _ _ _ _ _ => rfl) F am_fp0
  · refine aw_re (S' := [.int 0]) rfl ?_
    refine aw_if_eq (npc := 7) (tgt := 41) dX8_lay_4 rfl (by decide) (fun _ => ?_) (fun hc => absurd (by decide) hc)
    refine aw_ldc (npc := 43) kc_X8_91 dX8_lay_41 rfl ?_
    refine aw_iret rfl dX8_lay_43 ?_
    exact hq _ _ _ (by simp [laB, laK, laV, laT, laH, laU, cI, hw1]) (by simp [laB, laK, laV, laT, laH, laU, cI, hw1]) (by simp [laB, laK, laV, laT, laH, laU, laM, cI, hw1]) (by simp [laB, laK, laV, laT, laH, laU, laM2, cI, hw1]) (by simp [laB, laK, laV, laT, laH, laU, cI, hw1]) (fun _ _ _ _ _ => rfl) F am_fp0
def aset (a : Nat → Nat → Int32) (k : Nat) (f : Nat → Int32) : Nat → Nat → Int32 := fun c => if c = k then f else a c
theorem aset_s {a : Nat → Nat → Int32} {k : Nat} {f : Nat → Int32} : aset a k f k = f := if_pos rfl
theorem aset_n {a : Nat → Nat → Int32} {k c : Nat} {f : Nat → Int32} (h : c ≠ k) : aset a k f c = a c := if_neg h
theorem upd_id {f : Nat → Int32} {k : Nat} : upd f k (f k) = f := funext (fun i => by
  by_cases e : i = k
  · subst e; exact pk_us
  · exact pk_un e)
theorem wn_hw (v m : Int32) : wn v 0 m = hw v m := by
  unfold wn hw
  by_cases q : v < 0
  · rw [if_pos q, if_neg (Int32.not_le.mpr q)]
  · rw [if_neg q, if_pos (Int32.not_lt.mp q)]
theorem mr_all71 {o N f : Nat → Int32} {a : Nat → Nat → Int32} {h : am_H} (F : MR o N a h) : MR o N (aset a 71 f) (am_up h 71 (.inl (0, tl 1434 f))) := by
  obtain ⟨f69, f70, f71, f72, f73, f74, f75, f76, f77, f78, f79, f80, f81, f82, f83, f84, f85, f86, f87, f88, f89, f90, f91⟩ := F
  exact ⟨am_ne (by decide) f69, am_ne (by decide) f70, am_eq, am_ne (by decide) f72, am_ne (by decide) f73, am_ne (by decide) f74, am_ne (by decide) f75, am_ne (by decide) f76, am_ne (by decide) f77, am_ne (by decide) f78, am_ne (by decide) f79, am_ne (by decide) f80, am_ne (by decide) f81, am_ne (by decide) f82, am_ne (by decide) f83, am_ne (by decide) f84, am_ne (by decide) f85, am_ne (by decide) f86, am_ne (by decide) f87, am_ne (by decide) f88, am_ne (by decide) f89, am_ne (by decide) f90, am_ne (by decide) f91⟩
theorem mr_all72 {o N f : Nat → Int32} {a : Nat → Nat → Int32} {h : am_H} (F : MR o N a h) : MR o N (aset a 72 f) (am_up h 72 (.inl (0, tl 1434 f))) := by
  obtain ⟨f69, f70, f71, f72, f73, f74, f75, f76, f77, f78, f79, f80, f81, f82, f83, f84, f85, f86, f87, f88, f89, f90, f91⟩ := F
  exact ⟨am_ne (by decide) f69, am_ne (by decide) f70, am_ne (by decide) f71, am_eq, am_ne (by decide) f73, am_ne (by decide) f74, am_ne (by decide) f75, am_ne (by decide) f76, am_ne (by decide) f77, am_ne (by decide) f78, am_ne (by decide) f79, am_ne (by decide) f80, am_ne (by decide) f81, am_ne (by decide) f82, am_ne (by decide) f83, am_ne (by decide) f84, am_ne (by decide) f85, am_ne (by decide) f86, am_ne (by decide) f87, am_ne (by decide) f88, am_ne (by decide) f89, am_ne (by decide) f90, am_ne (by decide) f91⟩
theorem mr_all70 {o N f : Nat → Int32} {a : Nat → Nat → Int32} {h : am_H} (F : MR o N a h) : MR o f a (am_up h 70 (.inl (0, tl 1434 f))) := by
  obtain ⟨f69, f70, f71, f72, f73, f74, f75, f76, f77, f78, f79, f80, f81, f82, f83, f84, f85, f86, f87, f88, f89, f90, f91⟩ := F
  exact ⟨am_ne (by decide) f69, am_eq, am_ne (by decide) f71, am_ne (by decide) f72, am_ne (by decide) f73, am_ne (by decide) f74, am_ne (by decide) f75, am_ne (by decide) f76, am_ne (by decide) f77, am_ne (by decide) f78, am_ne (by decide) f79, am_ne (by decide) f80, am_ne (by decide) f81, am_ne (by decide) f82, am_ne (by decide) f83, am_ne (by decide) f84, am_ne (by decide) f85, am_ne (by decide) f86, am_ne (by decide) f87, am_ne (by decide) f88, am_ne (by decide) f89, am_ne (by decide) f90, am_ne (by decide) f91⟩
set_option maxHeartbeats 4000000 in
set_option maxRecDepth 100000 in
theorem m_copyAllL {X : List Int32} {d rc rs n : Nat} {Q : am_Q} {h : am_H} {a0 a1 : Nat} {f : Nat → Int32} (hne : a0 ≠ a1) (t0 : h a0 = some (.inl (0, tl 1434 f))) : ∀ (q i : Nat), i + q = 1434 → ∀ (u : Nat → Int32), (∀ j, j < i → u j = f j) → Q none n (am_up h a1 (.inl (0, tl 1434 f))) → AW X mX8_copyAll d rc rs 2 [some (.ref a0), some (.ref a1), some (.int (nI i))] [] n (am_up h a1 (.inl (0, tl 1434 u))) Q := by
  intro q
  induction q with
  | zero =>
    intro i hi u hf hq
    obtain rfl : i = 1434 := by omega
    refine aw_iload_n (npc := 3) rfl dX8_copyAll_2 rfl ?_
    refine aw_sipush (npc := 6) (v := 1434) (by decide) dX8_copyAll_3 rfl ?_
    refine aw_icmp_ge (npc := 9) (tgt := 21) dX8_copyAll_6 rfl (by decide) (fun _ => ?_) (fun hc => absurd (nI_le (a := 1434) (b := 1434) (by omega) (by omega)) hc)
    refine aw_vret rfl dX8_copyAll_21 ?_
    exact (congrArg (fun l : List Int32 => am_up h a1 (.inl (0, l))) (tl_congr (fun j hj => hf j hj))) ▸ hq
  | succ q ih =>
    intro i hi u hf hq
    refine aw_iload_n (npc := 3) rfl dX8_copyAll_2 rfl ?_
    refine aw_sipush (npc := 6) (v := 1434) (by decide) dX8_copyAll_3 rfl ?_
    refine aw_icmp_ge (npc := 9) (tgt := 21) dX8_copyAll_6 rfl (by decide) (fun hc => absurd hc (nI_ge (a := i) (b := 1434) (by omega) (by omega))) (fun _ => ?_)
    refine aw_aload_n (npc := 10) rfl dX8_copyAll_9 rfl ?_
    refine aw_iload_n (npc := 11) rfl dX8_copyAll_10 rfl ?_
    refine aw_aload_n (npc := 12) rfl dX8_copyAll_11 rfl ?_
    refine aw_iload_n (npc := 13) rfl dX8_copyAll_12 rfl ?_
    refine aw_iald (npc := 14) (x := f i) (j := i) dX8_copyAll_13 rfl (am_ne hne t0) (am_ix_nI (by omega)) (tl_at (by omega)) ?_
    refine aw_iast (npc := 15) (j := i) dX8_copyAll_14 rfl am_eq (am_ix_nI (by omega)) (by rw [tl_len]; omega) (show _ = am_up h a1 (.inl (0, tl 1434 (upd u i (f i)))) from am_uu.trans (congrArg (fun l : List Int32 => am_up h a1 (.inl (0, l))) tl_set)) ?_
    refine aw_iinc (npc := 18) (v := nI (i + 1)) (L' := [some (.ref a0), some (.ref a1), some (.int (nI (i + 1)))]) dX8_copyAll_15 rfl rfl (nI_1 _) (by decide) rfl rfl ?_
    refine aw_goto (npc := 2) dX8_copyAll_18 (by decide) ?_
    refine ih (i + 1) (by omega) _ (fun j hj => ?_) hq
    by_cases z : j = i
    · subst z; exact pk_us
    · exact (pk_un z).trans (hf j (by omega))
set_option maxHeartbeats 4000000 in
set_option maxRecDepth 100000 in
theorem m_copyAll {X : List Int32} {d rc rs n : Nat} {Q : am_Q} {h : am_H} {a0 a1 : Nat} {f : Nat → Int32} (hne : a0 ≠ a1) (t0 : h a0 = some (.inl (0, tl 1434 f))) {u : Nat → Int32} (t1 : h a1 = some (.inl (0, tl 1434 u))) (hq : Q none n (am_up h a1 (.inl (0, tl 1434 f)))) : AW X mX8_copyAll d rc rs 0 [some (.ref a0), some (.ref a1), none] [] n h Q := by
  refine aw_hp (h' := am_up h a1 (.inl (0, tl 1434 u))) (am_us t1).symm ?_
  refine aw_iconst (npc := 1) (v := 0) (by decide) dX8_copyAll_0 rfl ?_
  refine aw_istore_n (npc := 2) (L' := [some (.ref a0), some (.ref a1), some (.int 0)]) dX8_copyAll_1 rfl (by decide) rfl rfl ?_
  refine aw_locs (L' := [some (.ref a0), some (.ref a1), some (.int (nI 0))]) rfl ?_
  exact m_copyAllL hne t0 1434 0 (by omega) u (fun j hj => by omega) hq
set_option maxHeartbeats 4000000 in
set_option maxRecDepth 100000 in
theorem C_keep {X : List Int32} {d rc rs n : Nat} {Q : am_Q} {h : am_H} {N : Nat → Int32} {tx : List Value} {lk mv : Nat → Int32} {ik wc : Int32} {fr c : Nat} {NI : Nat → Int32} {txI : List Value} {lkI mvI : Nat → Int32} {tb : TB} (O : OB ik wc h) (F : QR 1 N tx lk mv h) (F3 : QR 25 NI txI lkI mvI h) (G : TT tb h) (hl1 : tx.length = 14) (hl25 : txI.length = 14) (hok1 : ∀ (t : Nat) (v : Value), tx[t]? = some v → v = .null ∨ ∃ a, a < tb.1 ∧ v = .ref (92 + 3 * a)) (hq : ∀ h9, OB 1 wc h9 → QR 25 N tx lk mvI h9 → am_fp (fun k => k ≠ 0 ∧ (k < 25 ∨ 37 ≤ k)) h9 h → Q (some (.int (N 1))) n h9) : AW X mX7_keep (d + 12) rc rs 0 [some (.ref 0)] [] n h Q := by
  refine aw_aload_n (npc := 1) rfl dX7_keep_0 rfl ?_
  refine aw_get (npc := 4) dX7_keep_1 rfl kf_X7_19 O.1 rfl ?_
  refine aw_aload_n (npc := 5) rfl dX7_keep_4 rfl ?_
  refine aw_get (npc := 8) dX7_keep_5 rfl kf_X7_10 O.1 rfl ?_
  refine aw_callV (npc := 11) (N := mX0_becomes) (b := 25) (mc := 0) (ms := 0) (A := [.ref 1]) (S := []) (L0 := [some (.ref 25), some (.ref 1), none]) dX7_keep_8 rfl km_X0_becomes kk_X7_193 F3.1 ⟨by decide, rfl⟩ rfl ⟨rfl, by decide⟩ rfl (Nat.le_of_ble_eq_true rfl) (Nat.zero_add _) (Nat.zero_add _) rfl ?_
  refine g_bec (tb := tb) F3 F G (by omega) (by omega) hl25 hl1 hok1 (fun hp3 F1 fz2 => ?_)
  have O4 := ob_frame O (fz2 0 (by omega)) (fz2 43 (by omega)) (fz2 44 (by omega))
  have F5 := qr_frame F (fun k h1 h2 => fz2 k (by omega))
  have G6 := tt_frame G (fun k hk => fz2 k (by omega))
  refine aw_aload_n (npc := 12) rfl dX7_keep_11 rfl ?_
  refine aw_iconst (npc := 13) (v := 1) (by decide) dX7_keep_12 rfl ?_
  refine aw_put (npc := 16) dX7_keep_13 rfl kf_X7_22 O4.1 (Nat.le_of_ble_eq_true rfl) am_ok_z1 rfl ?_
  have O7 := ob_p3 (v := 1) O4
  have F8 := qr_out (a := 0) (c := .inr (7, ([.ref 1, .ref 13, .ref 25, .int ik, .ref 37, .ref 39, .ref 40, .ref 43, .ref 44, .ref 45, .int wc] : List Value).set 3 (.int 1))) (by omega) F5
  have F9 := qr_out (a := 0) (c := .inr (7, ([.ref 1, .ref 13, .ref 25, .int ik, .ref 37, .ref 39, .ref 40, .ref 43, .ref 44, .ref 45, .int wc] : List Value).set 3 (.int 1))) (by omega) F1
  have G10 := tt_out (k := 0) (c := .inr (7, ([.ref 1, .ref 13, .ref 25, .int ik, .ref 37, .ref 39, .ref 40, .ref 43, .ref 44, .ref 45, .int wc] : List Value).set 3 (.int 1))) (by omega) G6
  refine aw_aload_n (npc := 17) rfl dX7_keep_16 rfl ?_
  refine aw_get (npc := 20) dX7_keep_17 rfl kf_X7_19 O7.1 rfl ?_
  refine aw_get (npc := 23) dX7_keep_20 rfl kf_X7_79 F9.1 rfl ?_
  refine aw_iret rfl dX7_keep_23 ?_
  exact hq _ O7 F9 (am_fpU (show ¬ (0 ≠ 0 ∧ (0 < 25 ∨ 37 ≤ 0)) by omega) (am_fpT (fun k (hk : k ≠ 0 ∧ (k < 25 ∨ 37 ≤ k)) => fz2 k (by omega)) am_fp0))
set_option maxHeartbeats 4000000 in
set_option maxRecDepth 100000 in
theorem C_back {X : List Int32} {d rc rs n : Nat} {Q : am_Q} {h : am_H} {N : Nat → Int32} {tx : List Value} {lk mv : Nat → Int32} {ik wc : Int32} {fr c : Nat} {NI : Nat → Int32} {txI : List Value} {lkI mvI : Nat → Int32} {tb : TB} (O : OB ik wc h) (F : QR 1 N tx lk mv h) (F3 : QR 25 NI txI lkI mvI h) (G : TT tb h) (hl1 : tx.length = 14) (hl25 : txI.length = 14) (hok25 : ∀ (t : Nat) (v : Value), txI[t]? = some v → v = .null ∨ ∃ a, a < tb.1 ∧ v = .ref (92 + 3 * a)) (k0 : ik = 0 → Q (some (.int (-1000000002))) n h) (k1 : ¬ ik = 0 → ∀ h9, QR 1 NI txI lkI mv h9 → am_fp (fun k => k < 1 ∨ 13 ≤ k) h9 h → Q (some (.int (NI 1))) n h9) : AW X mX7_back (d + 12) rc rs 0 [some (.ref 0)] [] n h Q := by
  refine aw_aload_n (npc := 1) rfl dX7_back_0 rfl ?_
  refine aw_get (npc := 4) dX7_back_1 rfl kf_X7_22 O.1 rfl ?_
  refine aw_if_ne (npc := 7) (tgt := 11) dX7_back_4 rfl (by decide) (fun hc1 => ?_) (fun hc1 => ?_)
  · refine aw_aload_n (npc := 12) rfl dX7_back_11 rfl ?_
    refine aw_get (npc := 15) dX7_back_12 rfl kf_X7_10 O.1 rfl ?_
    refine aw_aload_n (npc := 16) rfl dX7_back_15 rfl ?_
    refine aw_get (npc := 19) dX7_back_16 rfl kf_X7_19 O.1 rfl ?_
    refine aw_callV (npc := 22) (N := mX0_becomes) (b := 1) (mc := 0) (ms := 0) (A := [.ref 25]) (S := []) (L0 := [some (.ref 1), some (.ref 25), none]) dX7_back_19 rfl km_X0_becomes kk_X7_193 F.1 ⟨by decide, rfl⟩ rfl ⟨rfl, by decide⟩ rfl (Nat.le_of_ble_eq_true rfl) (Nat.zero_add _) (Nat.zero_add _) rfl ?_
    refine g_bec (tb := tb) F F3 G (by omega) (by omega) hl1 hl25 hok25 (fun hp4 F2 fz3 => ?_)
    have O5 := ob_frame O (fz3 0 (by omega)) (fz3 43 (by omega)) (fz3 44 (by omega))
    have F6 := qr_frame F3 (fun k h1 h2 => fz3 k (by omega))
    have G7 := tt_frame G (fun k hk => fz3 k (by omega))
    refine aw_aload_n (npc := 23) rfl dX7_back_22 rfl ?_
    refine aw_get (npc := 26) dX7_back_23 rfl kf_X7_10 O5.1 rfl ?_
    refine aw_get (npc := 29) dX7_back_26 rfl kf_X7_79 F2.1 rfl ?_
    refine aw_iret rfl dX7_back_29 ?_
    exact k1 hc1 _ F2 (am_fpT (fun k (hk : k < 1 ∨ 13 ≤ k) => fz3 k (by omega)) am_fp0)
  · refine aw_ldcw (npc := 10) kc_X7_321 dX7_back_7 rfl ?_
    refine aw_iret rfl dX7_back_10 ?_
    exact k0 hc1
set_option maxHeartbeats 4000000 in
set_option maxRecDepth 100000 in
theorem M_keep {X : List Int32} {d rc rs n : Nat} {Q : am_Q} {h : am_H} {o N : Nat → Int32} {a : Nat → Nat → Int32} {fr c : Nat} (F : MR o N a h) (hq : ∀ h9, MR (upd o 3 1) N (aset a 71 N) h9 → am_fp (fun k => k < 69 ∨ 92 ≤ k) h9 h → Q (some (.int (N 1))) n h9) : AW X mX8_keep (d + 12) rc rs 0 [some (.ref 69)] [] n h Q := by
  refine aw_aload_n (npc := 1) rfl dX8_keep_0 rfl ?_
  refine aw_get (npc := 4) dX8_keep_1 rfl kf_X8_9 F.1 rfl ?_
  refine aw_aload_n (npc := 5) rfl dX8_keep_4 rfl ?_
  refine aw_get (npc := 8) dX8_keep_5 rfl kf_X8_13 F.1 rfl ?_
  refine aw_callS (npc := 11) (N := mX8_copyAll) (mc := 0) (ms := 0) (A := [.ref 70, .ref 71]) (S := []) (L0 := [some (.ref 70), some (.ref 71), none]) dX8_keep_8 rfl km_X8_copyAll kk_X8_273 rfl ⟨rfl, by decide⟩ rfl (Nat.le_of_ble_eq_true rfl) (Nat.zero_add _) (Nat.zero_add _) rfl ?_
  refine m_copyAll (by decide) F.2.1 F.2.2.1 ?_
  have F1 := mr_all71 (f := N) F
  refine aw_aload_n (npc := 12) rfl dX8_keep_11 rfl ?_
  refine aw_iconst (npc := 13) (v := 1) (by decide) dX8_keep_12 rfl ?_
  refine aw_put (npc := 16) dX8_keep_13 rfl kf_X8_269 F1.1 (Nat.le_of_ble_eq_true rfl) am_ok_z1 rfl ?_
  have F2 := mr_o3 (v := 1) F1
  refine aw_aload_n (npc := 17) rfl dX8_keep_16 rfl ?_
  refine aw_get (npc := 20) dX8_keep_17 rfl kf_X8_9 F2.1 rfl ?_
  refine aw_iconst (npc := 21) (v := 1) (by decide) dX8_keep_20 rfl ?_
  refine aw_iald (npc := 22) (x := N 1) (j := 1) dX8_keep_21 rfl F2.2.1 ⟨by decide, by decide⟩ (tl_at (by omega)) ?_
  refine aw_iret rfl dX8_keep_22 ?_
  exact hq _ F2 (am_fpU (show ¬ (69 < 69 ∨ 92 ≤ 69) by omega) (am_fpU (show ¬ (71 < 69 ∨ 92 ≤ 71) by omega) am_fp0))
set_option maxHeartbeats 4000000 in
set_option maxRecDepth 100000 in
theorem M_back {X : List Int32} {d rc rs n : Nat} {Q : am_Q} {h : am_H} {o N : Nat → Int32} {a : Nat → Nat → Int32} {fr c : Nat} (F : MR o N a h) (k0 : o 3 = 0 → Q (some (.int (-1000000002))) n h) (k1 : ¬ o 3 = 0 → ∀ h9, MR o (a 71) a h9 → am_fp (fun k => k < 69 ∨ 92 ≤ k) h9 h → Q (some (.int (a 71 1))) n h9) : AW X mX8_back (d + 12) rc rs 0 [some (.ref 69)] [] n h Q := by
  refine aw_aload_n (npc := 1) rfl dX8_back_0 rfl ?_
  refine aw_get (npc := 4) dX8_back_1 rfl kf_X8_269 F.1 rfl ?_
  refine aw_if_ne (npc := 7) (tgt := 11) dX8_back_4 rfl (by decide) (fun hc1 => ?_) (fun hc1 => ?_)
  · refine aw_aload_n (npc := 12) rfl dX8_back_11 rfl ?_
    refine aw_get (npc := 15) dX8_back_12 rfl kf_X8_13 F.1 rfl ?_
    refine aw_aload_n (npc := 16) rfl dX8_back_15 rfl ?_
    refine aw_get (npc := 19) dX8_back_16 rfl kf_X8_9 F.1 rfl ?_
    refine aw_callS (npc := 22) (N := mX8_copyAll) (mc := 0) (ms := 0) (A := [.ref 71, .ref 70]) (S := []) (L0 := [some (.ref 71), some (.ref 70), none]) dX8_back_19 rfl km_X8_copyAll kk_X8_273 rfl ⟨rfl, by decide⟩ rfl (Nat.le_of_ble_eq_true rfl) (Nat.zero_add _) (Nat.zero_add _) rfl ?_
    refine m_copyAll (by decide) F.2.2.1 F.2.1 ?_
    have F2 := mr_all70 (f := a 71) F
    refine aw_aload_n (npc := 23) rfl dX8_back_22 rfl ?_
    refine aw_get (npc := 26) dX8_back_23 rfl kf_X8_9 F2.1 rfl ?_
    refine aw_iconst (npc := 27) (v := 1) (by decide) dX8_back_26 rfl ?_
    refine aw_iald (npc := 28) (x := (a 71) 1) (j := 1) dX8_back_27 rfl F2.2.1 ⟨by decide, by decide⟩ (tl_at (by omega)) ?_
    refine aw_iret rfl dX8_back_28 ?_
    exact k1 hc1 _ F2 (am_fpU (show ¬ (70 < 69 ∨ 92 ≤ 70) by omega) am_fp0)
  · refine aw_ldcw (npc := 10) kc_X8_265 dX8_back_7 rfl ?_
    refine aw_iret rfl dX8_back_10 ?_
    exact k0 hc1
def poS (z : Nat) (cl : Nat → Int32) (s t : Nat) (p : (Nat → Int32) × Int32) : (Nat → Int32) × Int32 := if t < z then (if cl (24 * s + t) = (-1000000005) then p else if hw (cl (24 * s + t)) 9 = p.1 (8 + t) then p else (upd p.1 (8 + t) (hw (cl (24 * s + t)) 9), p.2 + 1)) else p
def poM (z : Nat) (cl : Nat → Int32) (s : Nat) : Nat → Nat → (Nat → Int32) × Int32 → (Nat → Int32) × Int32
  | 0, _, p => p
  | m + 1, t, p => poM z cl s m (t + 1) (poS z cl s t p)
theorem poM_id {z : Nat} {cl : Nat → Int32} {s : Nat} : ∀ (m t : Nat) (p : (Nat → Int32) × Int32), z ≤ t → poM z cl s m t p = p := by
  intro m
  induction m with
  | zero => intro t p _; rfl
  | succ m ih =>
    intro t p h
    show poM z cl s m (t + 1) (poS z cl s t p) = p
    rw [show poS z cl s t p = p from if_neg (by omega)]
    exact ih (t + 1) p (by omega)
theorem wi_ltz {y : Int32} {z t : Nat} (hy : y = nI z) (hz : z < 1000) (h : wi (nI t) 0 (y - 1)) (ht : t < 1000) : t < z := by
  obtain ⟨q, hq, e⟩ := wi_idx hy hz h
  have e2 := congrArg Int32.toInt e
  rw [nI_toInt (by omega), nI_toInt (by omega)] at e2
  omega
noncomputable def paV (sr sz cl N : Nat → Int32) (s : Int32) : Int32 := cI (wi s 0 3) (cI (sr (fN s) = -1) (-1000000011) (poM (fN (sz (fN s))) cl (fN s) 4 0 (N, 0)).2) (-1000000001)
noncomputable def paN (sr sz cl N : Nat → Int32) (s : Int32) : Nat → Int32 := cI (wi s 0 3) (cI (sr (fN s) = -1) N (poM (fN (sz (fN s))) cl (fN s) 4 0 (N, 0)).1) N
set_option maxHeartbeats 4000000 in
set_option maxRecDepth 100000 in
theorem C_pourL {X : List Int32} {d rc rs n : Nat} {Q : am_Q} {tx : List Value} {lk mv : Nat → Int32} {ik wc : Int32} {sr sz cl : Nat → Int32} {s z : Nat} (hs : s < 4) (hz : z ≤ 24) (ez : sz s = nI z) : ∀ (m t : Nat), t + m = 4 → ∀ (N : Nat → Int32) (c : Int32) (v5 : Option Value) (h : am_H), OB ik wc h → QR 1 N tx lk mv h → RW sr sz cl h → (∀ N9 c9 w9 h9, (N9, c9) = poM z cl s m t (N, c) → QR 1 N9 tx lk mv h9 → am_fp (fun k => k < 1 ∨ 13 ≤ k) h9 h → AW X mX7_pour (d + 12) rc rs 97 [some (.ref 0), some (.int (nI s)), some (.ref (46 + 2 * s)), some (.int c9), some (.int (nI 4)), w9] [] n h9 Q) → AW X mX7_pour (d + 12) rc rs 32 [some (.ref 0), some (.int (nI s)), some (.ref (46 + 2 * s)), some (.int c), some (.int (nI t)), v5] [] n h Q := by
  intro m
  induction m with
  | zero =>
    intro t ht N c v5 h O F Rw hq
    obtain rfl : t = 4 := by omega
    refine aw_iload (npc := 34) rfl dX7_pour_32 rfl ?_
    refine aw_iconst (npc := 35) (v := 4) (by decide) dX7_pour_34 rfl ?_
    exact aw_icmp_ge (npc := 38) (tgt := 97) dX7_pour_35 rfl (by decide) (fun _ => hq N c v5 h rfl F am_fp0) (fun hc => absurd (nI_le (a := 4) (b := 4) (Nat.le_refl _) (by decide)) hc)
  | succ m ih =>
    intro t ht N c v5 h O F Rw hq
    refine aw_iload (npc := 34) rfl dX7_pour_32 rfl ?_
    refine aw_iconst (npc := 35) (v := 4) (by decide) dX7_pour_34 rfl ?_
    refine aw_icmp_ge (npc := 38) (tgt := 97) dX7_pour_35 rfl (by decide) (fun hc => absurd hc (nI_ge (a := t) (b := 4) (by omega) (by omega))) (fun _ => ?_)
    refine aw_aload_n (npc := 39) rfl dX7_pour_38 rfl ?_
    refine aw_iload (npc := 41) rfl dX7_pour_39 rfl ?_
    refine aw_callV (npc := 44) (N := mX2_isNumber) (b := 46 + 2 * s) (mc := 0) (ms := 0) (A := [.int (nI t)]) (S := []) (L0 := [some (.ref (46 + 2 * s)), some (.int (nI t))]) dX7_pour_41 rfl km_X2_isNumber kk_X7_215 (Rw s (by omega)).1 ⟨by decide, rfl⟩ rfl ⟨rfl, by decide⟩ rfl (Nat.le_of_ble_eq_true rfl) (Nat.zero_add _) (Nat.zero_add _) rfl ?_
    refine aw_aload_n (npc := 1) rfl dX2_isNumber_0 rfl ?_
    refine aw_iload_n (npc := 2) rfl dX2_isNumber_1 rfl ?_
    refine aw_callV (npc := 5) (N := mX2_isPlace) (b := 46 + 2 * s) (mc := 0) (ms := 0) (A := [.int (nI t)]) (S := []) (L0 := [some (.ref (46 + 2 * s)), some (.int (nI t))]) dX2_isNumber_2 rfl km_X2_isPlace kk_X2_38 (Rw s (by omega)).1 ⟨by decide, rfl⟩ rfl ⟨rfl, by decide⟩ rfl (Nat.le_of_ble_eq_true rfl) (Nat.zero_add _) (Nat.zero_add _) rfl ?_
    refine aw_iload_n (npc := 1) rfl dX2_isPlace_0 rfl ?_
    refine aw_iconst (npc := 2) (v := 0) (by decide) dX2_isPlace_1 rfl ?_
    refine aw_aload_n (npc := 3) rfl dX2_isPlace_2 rfl ?_
    refine aw_get (npc := 6) dX2_isPlace_3 rfl kf_X2_15 (Rw s (by omega)).1 rfl ?_
    refine aw_iconst (npc := 7) (v := 1) (by decide) dX2_isPlace_6 rfl ?_
    refine aw_isub (npc := 8) dX2_isPlace_7 rfl ?_
    refine aw_callSN (npc := 11) (N := mX7_within) (mc := 0) (ms := 0) (A := [.int (nI t), .int 0, .int ((sz s) - 1)]) (S := []) (L0 := [some (.int (nI t)), some (.int 0), some (.int ((sz s) - 1))]) dX2_isPlace_8 rfl km_X7_within kk_X2_34 rfl ⟨rfl, by decide⟩ rfl (Nat.le_of_ble_eq_true rfl) (Nat.zero_add _) (Nat.zero_add _) rfl ?_
    refine c_X7_within (fun hw2 => ?_) (fun hw2 => ?_)
    · refine aw_re (S' := [.int 1]) rfl ?_
      refine aw_zret rfl rfl dX2_isPlace_11 ?_
      refine aw_re (S' := [.int 1]) rfl ?_
      refine aw_if_eq (npc := 8) (tgt := 23) dX2_isNumber_5 rfl (by decide) (fun hc => absurd hc (by decide)) (fun _ => ?_)
      refine aw_aload_n (npc := 9) rfl dX2_isNumber_8 rfl ?_
      refine aw_get (npc := 12) dX2_isNumber_9 rfl kf_X2_18 (Rw s (by omega)).1 rfl ?_
      refine aw_iload_n (npc := 13) rfl dX2_isNumber_12 rfl ?_
      refine aw_iald (npc := 14) (x := cl (24 * s + t)) (j := t) dX2_isNumber_13 rfl (Rw s (by omega)).2 (am_ix_nI (by omega)) (tl_at (by omega)) ?_
      refine aw_ldc (npc := 16) kc_X2_42 dX2_isNumber_14 rfl ?_
      refine aw_icmp_eq (npc := 19) (tgt := 23) dX2_isNumber_16 rfl (by decide) (fun hc3 => ?_) (fun hc3 => ?_)
      · refine aw_iconst (npc := 24) (v := 0) (by decide) dX2_isNumber_23 rfl ?_
        refine aw_zret rfl rfl dX2_isNumber_24 ?_
        refine aw_re (S' := [.int 0]) rfl ?_
        refine aw_if_eq (npc := 47) (tgt := 91) dX7_pour_44 rfl (by decide) (fun _ => ?_) (fun hc => absurd (by decide) hc)
        refine aw_iinc (npc := 94) (v := nI (t + 1)) (L' := [some (.ref 0), some (.int (nI s)), some (.ref (46 + 2 * s)), some (.int c), some (.int (nI (t + 1))), v5]) dX7_pour_91 rfl rfl (nI_1 _) (by decide) rfl rfl ?_
        refine aw_goto (npc := 32) dX7_pour_94 (by decide) ?_
        have e9 : poS z cl s t (N, c) = (N, c) := by simp [poS, wi_ltz ez (by omega) hw2 (by omega), hc3]
        exact ih (t + 1) (by omega) _ _ _ _ O F Rw (fun N9 c9 w9 h9 E9 F9 fz => hq N9 c9 w9 h9 (E9.trans (congrArg (poM z cl s m (t + 1)) e9.symm)) F9 (am_fpT fz am_fp0))
      · refine aw_iconst (npc := 20) (v := 1) (by decide) dX2_isNumber_19 rfl ?_
        refine aw_goto (npc := 24) dX2_isNumber_20 (by decide) ?_
        refine aw_zret rfl rfl dX2_isNumber_24 ?_
        refine aw_re (S' := [.int 1]) rfl ?_
        refine aw_if_eq (npc := 47) (tgt := 91) dX7_pour_44 rfl (by decide) (fun hc => absurd hc (by decide)) (fun _ => ?_)
        refine aw_aload_n (npc := 48) rfl dX7_pour_47 rfl ?_
        refine aw_get (npc := 51) dX7_pour_48 rfl kf_X7_218 (Rw s (by omega)).1 rfl ?_
        refine aw_iload (npc := 53) rfl dX7_pour_51 rfl ?_
        refine aw_iald (npc := 54) (x := cl (24 * s + t)) (j := t) dX7_pour_53 rfl (Rw s (by omega)).2 (am_ix_nI (by omega)) (tl_at (by omega)) ?_
        refine aw_bipush (npc := 56) (v := 9) (by decide) dX7_pour_54 rfl ?_
        refine aw_callS (npc := 59) (N := mX7_heldWithin) (mc := 0) (ms := 0) (A := [.int (cl (24 * s + t)), .int 9]) (S := []) (L0 := [some (.int (cl (24 * s + t))), some (.int 9)]) dX7_pour_56 rfl km_X7_heldWithin kk_X7_284 rfl ⟨rfl, by decide⟩ rfl (Nat.le_of_ble_eq_true rfl) (Nat.zero_add _) (Nat.zero_add _) rfl ?_
        refine g_held ?_
        refine aw_re (S' := [.int (hw (cl (24 * s + t)) 9)]) rfl ?_
        refine aw_istore (npc := 61) (L' := [some (.ref 0), some (.int (nI s)), some (.ref (46 + 2 * s)), some (.int c), some (.int (nI t)), some (.int (hw (cl (24 * s + t)) 9))]) dX7_pour_59 rfl (by decide) rfl rfl ?_
        refine aw_iload (npc := 63) rfl dX7_pour_61 rfl ?_
        refine aw_aload_n (npc := 64) rfl dX7_pour_63 rfl ?_
        refine aw_get (npc := 67) dX7_pour_64 rfl kf_X7_10 O.1 rfl ?_
        refine aw_get (npc := 70) dX7_pour_67 rfl kf_X7_127 F.1 rfl ?_
        refine aw_iload (npc := 72) rfl dX7_pour_70 rfl ?_
        refine aw_iald (npc := 73) (x := N (8 + 1 * t)) (j := t) dX7_pour_72 rfl F.2.1 (am_ix_nI (by omega)) (tl_at (by omega)) ?_
        refine aw_icmp_eq (npc := 76) (tgt := 91) dX7_pour_73 rfl (by decide) (fun hc4 => ?_) (fun hc4 => ?_)
        · refine aw_iinc (npc := 94) (v := nI (t + 1)) (L' := [some (.ref 0), some (.int (nI s)), some (.ref (46 + 2 * s)), some (.int c), some (.int (nI (t + 1))), some (.int (hw (cl (24 * s + t)) 9))]) dX7_pour_91 rfl rfl (nI_1 _) (by decide) rfl rfl ?_
          refine aw_goto (npc := 32) dX7_pour_94 (by decide) ?_
          simp only [Nat.one_mul] at hc4
          have e9 : poS z cl s t (N, c) = (N, c) := by simp [poS, wi_ltz ez (by omega) hw2 (by omega), hc3, hc4]
          exact ih (t + 1) (by omega) _ _ _ _ O F Rw (fun N9 c9 w9 h9 E9 F9 fz => hq N9 c9 w9 h9 (E9.trans (congrArg (poM z cl s m (t + 1)) e9.symm)) F9 (am_fpT fz am_fp0))
        · refine aw_aload_n (npc := 77) rfl dX7_pour_76 rfl ?_
          refine aw_get (npc := 80) dX7_pour_77 rfl kf_X7_10 O.1 rfl ?_
          refine aw_get (npc := 83) dX7_pour_80 rfl kf_X7_127 F.1 rfl ?_
          refine aw_iload (npc := 85) rfl dX7_pour_83 rfl ?_
          refine aw_iload (npc := 87) rfl dX7_pour_85 rfl ?_
          refine aw_iast (npc := 88) (j := t) dX7_pour_87 rfl F.2.1 (am_ix_nI (by omega)) (by rw [tl_len]; omega) rfl ?_
          have F5 := qr_stand (j := t) (v := hw (cl (24 * s + t)) 9) F (by omega)
          have O6 := ob_out (a := 2) (c := .inl (0, (tl 4 (fun z9 => N (8 + 1 * z9))).set t (hw (cl (24 * s + t)) 9))) (by omega) O
          have Rw7 := rw_out (a := 2) (c := .inl (0, (tl 4 (fun z9 => N (8 + 1 * z9))).set t (hw (cl (24 * s + t)) 9))) (by omega) Rw
          refine aw_iinc (npc := 91) (v := c + 1) (L' := [some (.ref 0), some (.int (nI s)), some (.ref (46 + 2 * s)), some (.int (c + 1)), some (.int (nI t)), some (.int (hw (cl (24 * s + t)) 9))]) dX7_pour_88 rfl rfl rfl (by decide) rfl rfl ?_
          refine aw_iinc (npc := 94) (v := nI (t + 1)) (L' := [some (.ref 0), some (.int (nI s)), some (.ref (46 + 2 * s)), some (.int (c + 1)), some (.int (nI (t + 1))), some (.int (hw (cl (24 * s + t)) 9))]) dX7_pour_91 rfl rfl (nI_1 _) (by decide) rfl rfl ?_
          refine aw_goto (npc := 32) dX7_pour_94 (by decide) ?_
          simp only [Nat.one_mul] at hc4
          have e9 : poS z cl s t (N, c) = (upd N (8 + 1 * t) (hw (cl (24 * s + t)) 9), c + 1) := by simp [poS, wi_ltz ez (by omega) hw2 (by omega), hc3, hc4]
          exact ih (t + 1) (by omega) _ _ _ _ O6 F5 Rw7 (fun N9 c9 w9 h9 E9 F9 fz => hq N9 c9 w9 h9 (E9.trans (congrArg (poM z cl s m (t + 1)) e9.symm)) F9 (am_fpT fz (am_fpU (show ¬ (2 < 1 ∨ 13 ≤ 2) by omega) am_fp0)))
    · refine aw_re (S' := [.int 0]) rfl ?_
      refine aw_zret rfl rfl dX2_isPlace_11 ?_
      refine aw_re (S' := [.int 0]) rfl ?_
      refine aw_if_eq (npc := 8) (tgt := 23) dX2_isNumber_5 rfl (by decide) (fun _ => ?_) (fun hc => absurd (by decide) hc)
      refine aw_iconst (npc := 24) (v := 0) (by decide) dX2_isNumber_23 rfl ?_
      refine aw_zret rfl rfl dX2_isNumber_24 ?_
      refine aw_re (S' := [.int 0]) rfl ?_
      refine aw_if_eq (npc := 47) (tgt := 91) dX7_pour_44 rfl (by decide) (fun _ => ?_) (fun hc => absurd (by decide) hc)
      refine aw_iinc (npc := 94) (v := nI (t + 1)) (L' := [some (.ref 0), some (.int (nI s)), some (.ref (46 + 2 * s)), some (.int c), some (.int (nI (t + 1))), v5]) dX7_pour_91 rfl rfl (nI_1 _) (by decide) rfl rfl ?_
      refine aw_goto (npc := 32) dX7_pour_94 (by decide) ?_
      have e9 : poS z cl s t (N, c) = (N, c) := by simp [poS, (show ¬ t < z from fun q => hw2 (wi_idx' ez (by omega) q rfl))]
      exact ih (t + 1) (by omega) _ _ _ _ O F Rw (fun N9 c9 w9 h9 E9 F9 fz => hq N9 c9 w9 h9 (E9.trans (congrArg (poM z cl s m (t + 1)) e9.symm)) F9 (am_fpT fz am_fp0))
set_option maxHeartbeats 4000000 in
set_option maxRecDepth 100000 in
theorem C_pour {X : List Int32} {d rc rs n : Nat} {Q : am_Q} {h : am_H} {N : Nat → Int32} {tx : List Value} {lk mv : Nat → Int32} {ik wc : Int32} {fr c : Nat} {s : Int32} {sr sz cl : Nat → Int32} (O : OB ik wc h) (F : QR 1 N tx lk mv h) (Rw : RW sr sz cl h) (hI : RI sr sz) (hq : ∀ v9 N9 h9, v9 = paV sr sz cl N s → N9 = paN sr sz cl N s → QR 1 N9 tx lk mv h9 → am_fp (fun k => k < 1 ∨ 13 ≤ k) h9 h → Q (some (.int v9)) n h9) : AW X mX7_pour (d + 12) rc rs 0 [some (.ref 0), some (.int s), none, none, none, none] [] n h Q := by
  refine aw_iload_n (npc := 1) rfl dX7_pour_0 rfl ?_
  refine aw_callS (npc := 4) (N := mX7_isSheet) (mc := 0) (ms := 0) (A := [.int s]) (S := []) (L0 := [some (.int s)]) dX7_pour_1 rfl km_X7_isSheet kk_X7_204 rfl ⟨rfl, by decide⟩ rfl (Nat.le_of_ble_eq_true rfl) (Nat.zero_add _) (Nat.zero_add _) rfl ?_
  refine c_X7_isSheet (fun hw1 => ?_) (fun hw1 => ?_)
  · obtain ⟨sn, hsn, esn⟩ := wi_nI (H := 3) (by decide) (by decide) hw1
    subst esn
    have fsn : fN (nI sn) = sn := fN_nI (by omega)
    obtain ⟨hsr, z9, hz24, ez9⟩ := hI sn (by omega)
    have fz9 : fN (nI z9) = z9 := fN_nI (by omega)
    refine aw_re (S' := [.int 1]) rfl ?_
    refine aw_if_ne (npc := 7) (tgt := 10) dX7_pour_4 rfl (by decide) (fun _ => ?_) (fun hc => absurd hc (by decide))
    refine aw_aload_n (npc := 11) rfl dX7_pour_10 rfl ?_
    refine aw_get (npc := 14) dX7_pour_11 rfl kf_X7_47 O.1 rfl ?_
    refine aw_iload_n (npc := 15) rfl dX7_pour_14 rfl ?_
    refine aw_aald (npc := 16) (j := sn) dX7_pour_15 rfl (by decide) O.2.1 (am_ix_nI (by omega)) (sh_at (by omega)) ?_
    refine aw_astore_n (npc := 17) (L' := [some (.ref 0), some (.int (nI sn)), some (.ref (46 + 2 * sn)), none, none, none]) dX7_pour_16 rfl (by decide) rfl rfl ?_
    refine aw_aload_n (npc := 18) rfl dX7_pour_17 rfl ?_
    refine aw_callV (npc := 21) (N := mX2_isMissing) (b := 46 + 2 * sn) (mc := 0) (ms := 0) (A := []) (S := []) (L0 := [some (.ref (46 + 2 * sn))]) dX7_pour_18 rfl km_X2_isMissing kk_X7_207 (Rw sn (by omega)).1 ⟨by decide, rfl⟩ rfl ⟨rfl, by decide⟩ rfl (Nat.le_of_ble_eq_true rfl) (Nat.zero_add _) (Nat.zero_add _) rfl ?_
    refine aw_aload_n (npc := 1) rfl dX2_isMissing_0 rfl ?_
    refine aw_get (npc := 4) dX2_isMissing_1 rfl kf_X2_9 (Rw sn (by omega)).1 rfl ?_
    rcases wi_cm1_1 hsr with esr | esr | esr
    · refine aw_top (y := -1) esr ?_
      refine aw_iconst (npc := 5) (v := -1) (by decide) dX2_isMissing_4 rfl ?_
      refine aw_icmp_ne (npc := 8) (tgt := 12) dX2_isMissing_5 rfl (by decide) (fun hc => absurd (by decide) hc) (fun _ => ?_)
      refine aw_iconst (npc := 9) (v := 1) (by decide) dX2_isMissing_8 rfl ?_
      refine aw_goto (npc := 13) dX2_isMissing_9 (by decide) ?_
      refine aw_zret rfl rfl dX2_isMissing_13 ?_
      refine aw_re (S' := [.int 1]) rfl ?_
      refine aw_if_eq (npc := 24) (tgt := 27) dX7_pour_21 rfl (by decide) (fun hc => absurd hc (by decide)) (fun _ => ?_)
      refine aw_ldc (npc := 26) kc_X7_210 dX7_pour_24 rfl ?_
      refine aw_iret rfl dX7_pour_26 ?_
      exact hq _ _ _ (by simp [paV, paN, cI, hw1, fsn, esr]) (by simp [paV, paN, cI, hw1, fsn, esr]) F am_fp0
    · refine aw_top (y := 0) esr ?_
      refine aw_iconst (npc := 5) (v := -1) (by decide) dX2_isMissing_4 rfl ?_
      refine aw_icmp_ne (npc := 8) (tgt := 12) dX2_isMissing_5 rfl (by decide) (fun _ => ?_) (fun hc => absurd hc (by decide))
      refine aw_iconst (npc := 13) (v := 0) (by decide) dX2_isMissing_12 rfl ?_
      refine aw_zret rfl rfl dX2_isMissing_13 ?_
      refine aw_re (S' := [.int 0]) rfl ?_
      refine aw_if_eq (npc := 24) (tgt := 27) dX7_pour_21 rfl (by decide) (fun _ => ?_) (fun hc => absurd (by decide) hc)
      refine aw_iconst (npc := 28) (v := 0) (by decide) dX7_pour_27 rfl ?_
      refine aw_istore_n (npc := 29) (L' := [some (.ref 0), some (.int (nI sn)), some (.ref (46 + 2 * sn)), some (.int 0), none, none]) dX7_pour_28 rfl (by decide) rfl rfl ?_
      refine aw_iconst (npc := 30) (v := 0) (by decide) dX7_pour_29 rfl ?_
      refine aw_istore (npc := 32) (L' := [some (.ref 0), some (.int (nI sn)), some (.ref (46 + 2 * sn)), some (.int 0), some (.int 0), none]) dX7_pour_30 rfl (by decide) rfl rfl ?_
      refine aw_locs (L' := [some (.ref 0), some (.int (nI sn)), some (.ref (46 + 2 * sn)), some (.int 0), some (.int (nI 0)), none]) rfl ?_
      refine C_pourL (s := sn) (z := z9) (by omega) hz24 ez9 4 0 (by omega) N 0 none h O F Rw (fun N9 c9 w9 h9 E9 F9 f9 => ?_)
      refine aw_iload_n (npc := 98) rfl dX7_pour_97 rfl ?_
      refine aw_iret rfl dX7_pour_98 ?_
      exact hq _ _ _ (by simp [paV, paN, cI, hw1, fsn, esr, ez9, fz9, ← E9]) (by simp [paV, paN, cI, hw1, fsn, esr, ez9, fz9, ← E9]) F9 f9
    · refine aw_top (y := 1) esr ?_
      refine aw_iconst (npc := 5) (v := -1) (by decide) dX2_isMissing_4 rfl ?_
      refine aw_icmp_ne (npc := 8) (tgt := 12) dX2_isMissing_5 rfl (by decide) (fun _ => ?_) (fun hc => absurd hc (by decide))
      refine aw_iconst (npc := 13) (v := 0) (by decide) dX2_isMissing_12 rfl ?_
      refine aw_zret rfl rfl dX2_isMissing_13 ?_
      refine aw_re (S' := [.int 0]) rfl ?_
      refine aw_if_eq (npc := 24) (tgt := 27) dX7_pour_21 rfl (by decide) (fun _ => ?_) (fun hc => absurd (by decide) hc)
      refine aw_iconst (npc := 28) (v := 0) (by decide) dX7_pour_27 rfl ?_
      refine aw_istore_n (npc := 29) (L' := [some (.ref 0), some (.int (nI sn)), some (.ref (46 + 2 * sn)), some (.int 0), none, none]) dX7_pour_28 rfl (by decide) rfl rfl ?_
      refine aw_iconst (npc := 30) (v := 0) (by decide) dX7_pour_29 rfl ?_
      refine aw_istore (npc := 32) (L' := [some (.ref 0), some (.int (nI sn)), some (.ref (46 + 2 * sn)), some (.int 0), some (.int 0), none]) dX7_pour_30 rfl (by decide) rfl rfl ?_
      refine aw_locs (L' := [some (.ref 0), some (.int (nI sn)), some (.ref (46 + 2 * sn)), some (.int 0), some (.int (nI 0)), none]) rfl ?_
      refine C_pourL (s := sn) (z := z9) (by omega) hz24 ez9 4 0 (by omega) N 0 none h O F Rw (fun N9 c9 w9 h9 E9 F9 f9 => ?_)
      refine aw_iload_n (npc := 98) rfl dX7_pour_97 rfl ?_
      refine aw_iret rfl dX7_pour_98 ?_
      exact hq _ _ _ (by simp [paV, paN, cI, hw1, fsn, esr, ez9, fz9, ← E9]) (by simp [paV, paN, cI, hw1, fsn, esr, ez9, fz9, ← E9]) F9 f9
  · refine aw_re (S' := [.int 0]) rfl ?_
    refine aw_if_ne (npc := 7) (tgt := 10) dX7_pour_4 rfl (by decide) (fun hc => absurd (by decide) hc) (fun _ => ?_)
    refine aw_ldc (npc := 9) kc_X7_78 dX7_pour_7 rfl ?_
    refine aw_iret rfl dX7_pour_9 ?_
    exact hq _ _ _ (by simp [paV, paN, cI, hw1]) (by simp [paV, paN, cI, hw1]) F am_fp0
set_option maxHeartbeats 4000000 in
set_option maxRecDepth 100000 in
theorem M_pourL {X : List Int32} {d rc rs n : Nat} {Q : am_Q} {o : Nat → Int32} {a : Nat → Nat → Int32} {s z : Nat} (hs : s < 4) (hz : z ≤ 24) (ez : a 84 s = nI z) : ∀ (m t : Nat), t + m = 4 → ∀ (N : Nat → Int32) (c : Int32) (v4 v5 : Option Value) (h : am_H), MR o N a h → (∀ N9 c9 w4 w5 t9 h9, (N9, c9) = poM z (a 85) s m t (N, c) → MR o N9 a h9 → am_fp (fun k => k < 69 ∨ 92 ≤ k) h9 h → AW X mX8_pour (d + 12) rc rs 112 [some (.ref 69), some (.int (nI s)), some (.int c9), t9, w4, w5] [] n h9 Q) → AW X mX8_pour (d + 12) rc rs 26 [some (.ref 69), some (.int (nI s)), some (.int c), some (.int (nI t)), v4, v5] [] n h Q := by
  intro m
  induction m with
  | zero =>
    intro t ht N c v4 v5 h F hq
    obtain rfl : t = 4 := by omega
    refine aw_iload_n (npc := 27) rfl dX8_pour_26 rfl ?_
    refine aw_aload_n (npc := 28) rfl dX8_pour_27 rfl ?_
    refine aw_get (npc := 31) dX8_pour_28 rfl kf_X8_58 F.1 rfl ?_
    refine aw_iload_n (npc := 32) rfl dX8_pour_31 rfl ?_
    refine aw_iald (npc := 33) (x := (a 84) s) (j := s) dX8_pour_32 rfl F.2.2.2.2.2.2.2.2.2.2.2.2.2.2.2.1 (am_ix_nI (by omega)) (tl_at (by omega)) ?_
    refine aw_top (y := nI z) (ez) ?_
    refine aw_icmp_ge (npc := 36) (tgt := 112) dX8_pour_33 rfl (by decide) (fun hc1 => ?_) (fun hc1 => ?_)
    · have hc1N := (nI_leI (a := z) (b := 4) (by omega) (by omega)).mp hc1
      exact hq N c _ _ _ h rfl F am_fp0
    · have hc1N : ¬ z ≤ 4 := fun z9q => hc1 ((nI_leI (a := z) (b := 4) (by omega) (by omega)).mpr z9q)
      refine aw_iload_n (npc := 37) rfl dX8_pour_36 rfl ?_
      refine aw_iconst (npc := 38) (v := 4) (by decide) dX8_pour_37 rfl ?_
      refine aw_icmp_ge (npc := 41) (tgt := 112) dX8_pour_38 rfl (by decide) (fun _ => ?_) (fun hc => absurd (nI_le (a := 4) (b := 4) (by omega) (by omega)) hc)
      exact hq N c _ _ _ h rfl F am_fp0
  | succ m ih =>
    intro t ht N c v4 v5 h F hq
    refine aw_iload_n (npc := 27) rfl dX8_pour_26 rfl ?_
    refine aw_aload_n (npc := 28) rfl dX8_pour_27 rfl ?_
    refine aw_get (npc := 31) dX8_pour_28 rfl kf_X8_58 F.1 rfl ?_
    refine aw_iload_n (npc := 32) rfl dX8_pour_31 rfl ?_
    refine aw_iald (npc := 33) (x := (a 84) s) (j := s) dX8_pour_32 rfl F.2.2.2.2.2.2.2.2.2.2.2.2.2.2.2.1 (am_ix_nI (by omega)) (tl_at (by omega)) ?_
    refine aw_top (y := nI z) (ez) ?_
    refine aw_icmp_ge (npc := 36) (tgt := 112) dX8_pour_33 rfl (by decide) (fun hc1 => ?_) (fun hc1 => ?_)
    · have hc1N := (nI_leI (a := z) (b := t) (by omega) (by omega)).mp hc1
      exact hq N c _ _ _ h (poM_id _ _ _ (by omega)).symm F am_fp0
    · have hc1N : ¬ z ≤ t := fun z9q => hc1 ((nI_leI (a := z) (b := t) (by omega) (by omega)).mpr z9q)
      refine aw_iload_n (npc := 37) rfl dX8_pour_36 rfl ?_
      refine aw_iconst (npc := 38) (v := 4) (by decide) dX8_pour_37 rfl ?_
      refine aw_icmp_ge (npc := 41) (tgt := 112) dX8_pour_38 rfl (by decide) (fun hc => absurd hc (nI_ge (a := t) (b := 4) (by omega) (by omega))) (fun _ => ?_)
      refine aw_aload_n (npc := 42) rfl dX8_pour_41 rfl ?_
      refine aw_get (npc := 45) dX8_pour_42 rfl kf_X8_61 F.1 rfl ?_
      refine aw_bipush (npc := 47) (v := 24) (by decide) dX8_pour_45 rfl ?_
      refine aw_iload_n (npc := 48) rfl dX8_pour_47 rfl ?_
      refine aw_imulV (npc := 49) (v := nI (24 * s)) dX8_pour_48 rfl (pk_mul 24 _) ?_
      refine aw_iload_n (npc := 50) rfl dX8_pour_49 rfl ?_
      refine aw_iaddV (npc := 51) (v := nI ((24 * s) + t)) dX8_pour_50 rfl (nI_add _ _) ?_
      refine aw_iald (npc := 52) (x := (a 85) ((24 * s) + t)) (j := ((24 * s) + t)) dX8_pour_51 rfl F.2.2.2.2.2.2.2.2.2.2.2.2.2.2.2.2.1 (am_ix_nI (by omega)) (tl_at (by omega)) ?_
      refine aw_istore (npc := 54) (L' := [some (.ref 69), some (.int (nI s)), some (.int c), some (.int (nI t)), some (.int ((a 85) ((24 * s) + t))), v5]) dX8_pour_52 rfl (by decide) rfl rfl ?_
      refine aw_iload (npc := 56) rfl dX8_pour_54 rfl ?_
      refine aw_ldc (npc := 58) kc_X8_82 dX8_pour_56 rfl ?_
      refine aw_icmp_ne (npc := 61) (tgt := 73) dX8_pour_58 rfl (by decide) (fun hc3 => ?_) (fun hc3 => ?_)
      · refine aw_iload (npc := 75) rfl dX8_pour_73 rfl ?_
        refine aw_iconst (npc := 76) (v := 0) (by decide) dX8_pour_75 rfl ?_
        refine aw_bipush (npc := 78) (v := 9) (by decide) dX8_pour_76 rfl ?_
        refine aw_callS (npc := 81) (N := mX8_within) (mc := 0) (ms := 0) (A := [.int ((a 85) ((24 * s) + t)), .int 0, .int 9]) (S := []) (L0 := [some (.int ((a 85) ((24 * s) + t))), some (.int 0), some (.int 9)]) dX8_pour_78 rfl km_X8_within kk_X8_108 rfl ⟨rfl, by decide⟩ rfl (Nat.le_of_ble_eq_true rfl) (Nat.zero_add _) (Nat.zero_add _) rfl ?_
        refine m_within ?_
        refine aw_re (S' := [.int (wn ((a 85) ((24 * s) + t)) 0 9)]) rfl ?_
        refine aw_top (y := hw ((a 85) ((24 * s) + t)) 9) (wn_hw _ _) ?_
        refine aw_istore (npc := 83) (L' := [some (.ref 69), some (.int (nI s)), some (.int c), some (.int (nI t)), some (.int ((a 85) ((24 * s) + t))), some (.int (hw ((a 85) ((24 * s) + t)) 9))]) dX8_pour_81 rfl (by decide) rfl rfl ?_
        refine aw_iload_n (npc := 84) rfl dX8_pour_83 rfl ?_
        refine aw_aload_n (npc := 85) rfl dX8_pour_84 rfl ?_
        refine aw_bipush (npc := 87) (v := 8) (by decide) dX8_pour_85 rfl ?_
        refine aw_iload_n (npc := 88) rfl dX8_pour_87 rfl ?_
        refine aw_iaddV (npc := 89) (v := nI (8 + t)) dX8_pour_88 rfl (nI_add 8 _) ?_
        refine aw_iload (npc := 91) rfl dX8_pour_89 rfl ?_
        refine aw_callV (npc := 94) (N := mX8_becomes) (b := 69) (mc := 0) (ms := 0) (A := [.int (nI (8 + t)), .int (hw ((a 85) ((24 * s) + t)) 9)]) (S := [.int c]) (L0 := [some (.ref 69), some (.int (nI (8 + t))), some (.int (hw ((a 85) ((24 * s) + t)) 9)), none]) dX8_pour_91 rfl km_X8_becomes kk_X8_135 F.1 ⟨by decide, rfl⟩ rfl ⟨rfl, by decide⟩ rfl (Nat.le_of_ble_eq_true rfl) (Nat.zero_add _) (Nat.zero_add _) rfl ?_
        refine m_becomes (j := (8 + t)) (v := hw ((a 85) ((24 * s) + t)) 9) F (by omega) (fun hp6 F4 fb5 => ?_)
        refine aw_re (S' := [.int (N (8 + t)), .int c]) rfl ?_
        refine aw_iload (npc := 96) rfl dX8_pour_94 rfl ?_
        refine aw_icmp_ne (npc := 99) (tgt := 103) dX8_pour_96 rfl (by decide) (fun hc7 => ?_) (fun hc7 => ?_)
        · refine aw_iconst (npc := 104) (v := 1) (by decide) dX8_pour_103 rfl ?_
          refine aw_iadd (npc := 105) dX8_pour_104 rfl ?_
          refine aw_istore_n (npc := 106) (L' := [some (.ref 69), some (.int (nI s)), some (.int (c + 1)), some (.int (nI t)), some (.int ((a 85) ((24 * s) + t))), some (.int (hw ((a 85) ((24 * s) + t)) 9))]) dX8_pour_105 rfl (by decide) rfl rfl ?_
          refine aw_iinc (npc := 109) (v := nI (t + 1)) (L' := [some (.ref 69), some (.int (nI s)), some (.int (c + 1)), some (.int (nI (t + 1))), some (.int ((a 85) ((24 * s) + t))), some (.int (hw ((a 85) ((24 * s) + t)) 9))]) dX8_pour_106 rfl rfl (nI_1 _) (by decide) rfl rfl ?_
          refine aw_goto (npc := 26) dX8_pour_109 (by decide) ?_
          have e9 : poS z (a 85) s t (N, c) = (upd N (8 + t) (hw ((a 85) ((24 * s) + t)) 9), c + 1) := by simp [poS, (show t < z by omega), hc3, (show ¬ hw (a 85 (24 * s + t)) 9 = N (8 + t) from fun q => hc7 q.symm)]
          exact ih (t + 1) (by omega) _ _ _ _ _ F4 (fun N9 c9 w4 w5 t9 h9 E9 F9 fz => hq N9 c9 w4 w5 t9 h9 (E9.trans (congrArg (poM z (a 85) s m (t + 1)) e9.symm)) F9 (am_fpT fz (am_fpT (fun k (hk : k < 69 ∨ 92 ≤ k) => fb5 k (by omega)) am_fp0)))
        · refine aw_iconst (npc := 100) (v := 0) (by decide) dX8_pour_99 rfl ?_
          refine aw_goto (npc := 104) dX8_pour_100 (by decide) ?_
          refine aw_iaddV (npc := 105) (v := c) dX8_pour_104 rfl (Int32.add_zero _) ?_
          refine aw_istore_n (npc := 106) (L' := [some (.ref 69), some (.int (nI s)), some (.int c), some (.int (nI t)), some (.int ((a 85) ((24 * s) + t))), some (.int (hw ((a 85) ((24 * s) + t)) 9))]) dX8_pour_105 rfl (by decide) rfl rfl ?_
          refine aw_iinc (npc := 109) (v := nI (t + 1)) (L' := [some (.ref 69), some (.int (nI s)), some (.int c), some (.int (nI (t + 1))), some (.int ((a 85) ((24 * s) + t))), some (.int (hw ((a 85) ((24 * s) + t)) 9))]) dX8_pour_106 rfl rfl (nI_1 _) (by decide) rfl rfl ?_
          refine aw_goto (npc := 26) dX8_pour_109 (by decide) ?_
          have e9 : poS z (a 85) s t (N, c) = (N, c) := by simp [poS, (show t < z by omega), hc3, hc7.symm]
          have F9 : MR o N a _ := (show upd N (8 + t) (hw (a 85 (24 * s + t)) 9) = N from hc7 ▸ upd_id) ▸ F4
          exact ih (t + 1) (by omega) _ _ _ _ _ F9 (fun N9 c9 w4 w5 t9 h9 E9 F9 fz => hq N9 c9 w4 w5 t9 h9 (E9.trans (congrArg (poM z (a 85) s m (t + 1)) e9.symm)) F9 (am_fpT fz (am_fpT (fun k (hk : k < 69 ∨ 92 ≤ k) => fb5 k (by omega)) am_fp0)))
      · refine aw_aload_n (npc := 62) rfl dX8_pour_61 rfl ?_
        refine aw_get (npc := 65) dX8_pour_62 rfl kf_X8_9 F.1 rfl ?_
        refine aw_bipush (npc := 67) (v := 8) (by decide) dX8_pour_65 rfl ?_
        refine aw_iload_n (npc := 68) rfl dX8_pour_67 rfl ?_
        refine aw_iaddV (npc := 69) (v := nI (8 + t)) dX8_pour_68 rfl (nI_add 8 _) ?_
        refine aw_iald (npc := 70) (x := N (8 + t)) (j := (8 + t)) dX8_pour_69 rfl F.2.1 (am_ix_nI (by omega)) (tl_at (by omega)) ?_
        refine aw_goto (npc := 81) dX8_pour_70 (by decide) ?_
        refine aw_istore (npc := 83) (L' := [some (.ref 69), some (.int (nI s)), some (.int c), some (.int (nI t)), some (.int ((a 85) ((24 * s) + t))), some (.int (N (8 + t)))]) dX8_pour_81 rfl (by decide) rfl rfl ?_
        refine aw_iload_n (npc := 84) rfl dX8_pour_83 rfl ?_
        refine aw_aload_n (npc := 85) rfl dX8_pour_84 rfl ?_
        refine aw_bipush (npc := 87) (v := 8) (by decide) dX8_pour_85 rfl ?_
        refine aw_iload_n (npc := 88) rfl dX8_pour_87 rfl ?_
        refine aw_iaddV (npc := 89) (v := nI (8 + t)) dX8_pour_88 rfl (nI_add 8 _) ?_
        refine aw_iload (npc := 91) rfl dX8_pour_89 rfl ?_
        refine aw_callV (npc := 94) (N := mX8_becomes) (b := 69) (mc := 0) (ms := 0) (A := [.int (nI (8 + t)), .int (N (8 + t))]) (S := [.int c]) (L0 := [some (.ref 69), some (.int (nI (8 + t))), some (.int (N (8 + t))), none]) dX8_pour_91 rfl km_X8_becomes kk_X8_135 F.1 ⟨by decide, rfl⟩ rfl ⟨rfl, by decide⟩ rfl (Nat.le_of_ble_eq_true rfl) (Nat.zero_add _) (Nat.zero_add _) rfl ?_
        refine m_becomes (j := (8 + t)) (v := N (8 + t)) F (by omega) (fun hp12 F10 fb11 => ?_)
        refine aw_re (S' := [.int (N (8 + t)), .int c]) rfl ?_
        refine aw_iload (npc := 96) rfl dX8_pour_94 rfl ?_
        refine aw_icmp_ne (npc := 99) (tgt := 103) dX8_pour_96 rfl (by decide) (fun hc => absurd (rfl) hc) (fun _ => ?_)
        refine aw_iconst (npc := 100) (v := 0) (by decide) dX8_pour_99 rfl ?_
        refine aw_goto (npc := 104) dX8_pour_100 (by decide) ?_
        refine aw_iaddV (npc := 105) (v := c) dX8_pour_104 rfl (Int32.add_zero _) ?_
        refine aw_istore_n (npc := 106) (L' := [some (.ref 69), some (.int (nI s)), some (.int c), some (.int (nI t)), some (.int ((a 85) ((24 * s) + t))), some (.int (N (8 + t)))]) dX8_pour_105 rfl (by decide) rfl rfl ?_
        refine aw_iinc (npc := 109) (v := nI (t + 1)) (L' := [some (.ref 69), some (.int (nI s)), some (.int c), some (.int (nI (t + 1))), some (.int ((a 85) ((24 * s) + t))), some (.int (N (8 + t)))]) dX8_pour_106 rfl rfl (nI_1 _) (by decide) rfl rfl ?_
        refine aw_goto (npc := 26) dX8_pour_109 (by decide) ?_
        have e9 : poS z (a 85) s t (N, c) = (N, c) := by simp [poS, (show t < z by omega), hc3]
        have F14 : MR o N a _ := upd_id ▸ F10
        exact ih (t + 1) (by omega) _ _ _ _ _ F14 (fun N9 c9 w4 w5 t9 h9 E9 F9 fz => hq N9 c9 w4 w5 t9 h9 (E9.trans (congrArg (poM z (a 85) s m (t + 1)) e9.symm)) F9 (am_fpT fz (am_fpT (fun k (hk : k < 69 ∨ 92 ≤ k) => fb11 k (by omega)) am_fp0)))
set_option maxHeartbeats 4000000 in
set_option maxRecDepth 100000 in
theorem M_pour {X : List Int32} {d rc rs n : Nat} {Q : am_Q} {h : am_H} {o N : Nat → Int32} {a : Nat → Nat → Int32} {fr c : Nat} {s : Int32} (F : MR o N a h) (hI : RI (a 83) (a 84)) (hq : ∀ v9 N9 h9, v9 = paV (a 83) (a 84) (a 85) N s → N9 = paN (a 83) (a 84) (a 85) N s → MR o N9 a h9 → am_fp (fun k => k < 69 ∨ 92 ≤ k) h9 h → Q (some (.int v9)) n h9) : AW X mX8_pour (d + 12) rc rs 0 [some (.ref 69), some (.int s), none, none, none, none] [] n h Q := by
  refine aw_iload_n (npc := 1) rfl dX8_pour_0 rfl ?_
  refine aw_callS (npc := 4) (N := mX8_isSheet) (mc := 0) (ms := 0) (A := [.int s]) (S := []) (L0 := [some (.int s)]) dX8_pour_1 rfl km_X8_isSheet kk_X8_184 rfl ⟨rfl, by decide⟩ rfl (Nat.le_of_ble_eq_true rfl) (Nat.zero_add _) (Nat.zero_add _) rfl ?_
  refine c_X8_isSheet (fun hw1 => ?_) (fun hw1 => ?_)
  · obtain ⟨sn, hsn, esn⟩ := wi_nI (H := 3) (by decide) (by decide) hw1
    subst esn
    have fsn : fN (nI sn) = sn := fN_nI (by omega)
    obtain ⟨hsr, z9, hz24, ez9⟩ := hI sn (by omega)
    have fz9 : fN (nI z9) = z9 := fN_nI (by omega)
    refine aw_re (S' := [.int 1]) rfl ?_
    refine aw_if_ne (npc := 7) (tgt := 10) dX8_pour_4 rfl (by decide) (fun _ => ?_) (fun hc => absurd hc (by decide))
    refine aw_aload_n (npc := 11) rfl dX8_pour_10 rfl ?_
    refine aw_get (npc := 14) dX8_pour_11 rfl kf_X8_55 F.1 rfl ?_
    refine aw_iload_n (npc := 15) rfl dX8_pour_14 rfl ?_
    refine aw_iald (npc := 16) (x := (a 83) sn) (j := sn) dX8_pour_15 rfl F.2.2.2.2.2.2.2.2.2.2.2.2.2.2.1 (am_ix_nI (by omega)) (tl_at (by omega)) ?_
    rcases wi_cm1_1 hsr with esr | esr | esr
    · refine aw_top (y := -1) esr ?_
      refine aw_if_ge (npc := 19) (tgt := 22) dX8_pour_16 rfl (by decide) (fun hc => absurd hc (by decide)) (fun _ => ?_)
      refine aw_ldc (npc := 21) kc_X8_187 dX8_pour_19 rfl ?_
      refine aw_iret rfl dX8_pour_21 ?_
      exact hq _ _ _ (by simp [paV, paN, cI, hw1, fsn, esr]) (by simp [paV, paN, cI, hw1, fsn, esr]) F am_fp0
    · refine aw_top (y := 0) esr ?_
      refine aw_if_ge (npc := 19) (tgt := 22) dX8_pour_16 rfl (by decide) (fun _ => ?_) (fun hc => absurd (by decide) hc)
      refine aw_iconst (npc := 23) (v := 0) (by decide) dX8_pour_22 rfl ?_
      refine aw_istore_n (npc := 24) (L' := [some (.ref 69), some (.int (nI sn)), some (.int 0), none, none, none]) dX8_pour_23 rfl (by decide) rfl rfl ?_
      refine aw_iconst (npc := 25) (v := 0) (by decide) dX8_pour_24 rfl ?_
      refine aw_istore_n (npc := 26) (L' := [some (.ref 69), some (.int (nI sn)), some (.int 0), some (.int 0), none, none]) dX8_pour_25 rfl (by decide) rfl rfl ?_
      refine aw_locs (L' := [some (.ref 69), some (.int (nI sn)), some (.int 0), some (.int (nI 0)), none, none]) rfl ?_
      refine M_pourL (s := sn) (z := z9) (by omega) hz24 ez9 4 0 (by omega) N 0 none none h F (fun N9 c9 w4 w5 t9 h9 E9 F9 f9 => ?_)
      refine aw_iload_n (npc := 113) rfl dX8_pour_112 rfl ?_
      refine aw_iret rfl dX8_pour_113 ?_
      exact hq _ _ _ (by simp [paV, paN, cI, hw1, fsn, esr, ez9, fz9, ← E9]) (by simp [paV, paN, cI, hw1, fsn, esr, ez9, fz9, ← E9]) F9 f9
    · refine aw_top (y := 1) esr ?_
      refine aw_if_ge (npc := 19) (tgt := 22) dX8_pour_16 rfl (by decide) (fun _ => ?_) (fun hc => absurd (by decide) hc)
      refine aw_iconst (npc := 23) (v := 0) (by decide) dX8_pour_22 rfl ?_
      refine aw_istore_n (npc := 24) (L' := [some (.ref 69), some (.int (nI sn)), some (.int 0), none, none, none]) dX8_pour_23 rfl (by decide) rfl rfl ?_
      refine aw_iconst (npc := 25) (v := 0) (by decide) dX8_pour_24 rfl ?_
      refine aw_istore_n (npc := 26) (L' := [some (.ref 69), some (.int (nI sn)), some (.int 0), some (.int 0), none, none]) dX8_pour_25 rfl (by decide) rfl rfl ?_
      refine aw_locs (L' := [some (.ref 69), some (.int (nI sn)), some (.int 0), some (.int (nI 0)), none, none]) rfl ?_
      refine M_pourL (s := sn) (z := z9) (by omega) hz24 ez9 4 0 (by omega) N 0 none none h F (fun N9 c9 w4 w5 t9 h9 E9 F9 f9 => ?_)
      refine aw_iload_n (npc := 113) rfl dX8_pour_112 rfl ?_
      refine aw_iret rfl dX8_pour_113 ?_
      exact hq _ _ _ (by simp [paV, paN, cI, hw1, fsn, esr, ez9, fz9, ← E9]) (by simp [paV, paN, cI, hw1, fsn, esr, ez9, fz9, ← E9]) F9 f9
  · refine aw_re (S' := [.int 0]) rfl ?_
    refine aw_if_ne (npc := 7) (tgt := 10) dX8_pour_4 rfl (by decide) (fun hc => absurd (by decide) hc) (fun _ => ?_)
    refine aw_ldc (npc := 9) kc_X8_91 dX8_pour_7 rfl ?_
    refine aw_iret rfl dX8_pour_9 ?_
    exact hq _ _ _ (by simp [paV, paN, cI, hw1]) (by simp [paV, paN, cI, hw1]) F am_fp0
def ush (v k : Int32) : Int32 := (v.toUInt32 >>> (k.toUInt32 &&& Int32.toUInt32 31)).toInt32
def sar (v k : Int32) : Int32 := v >>> (k &&& 31)
def byt (v k : Int32) : Int32 := ush v k &&& 255
theorem byt_24 (v : Int32) : sar v 24 &&& (255 : Int32) = byt v 24 := by
  have h1 : sar v 24 &&& (255 : Int32) = nI ((sar v 24).toBitVec.toNat % 2 ^ 8) := pk_and _ 8 (by decide)
  have h2 : ush v 24 &&& (255 : Int32) = nI ((ush v 24).toBitVec.toNat % 2 ^ 8) := pk_and _ 8 (by decide)
  have h3 : (ush v 24).toBitVec.toNat = v.toBitVec.toNat / 2 ^ 24 := pk_ushr v 24 24 (by decide)
  unfold byt
  rw [h1, h2, h3]
  refine congrArg nI ?_
  have e : (sar v 24).toInt = v.toInt >>> 24 := pk_shr v _ _ (by decide)
  have hb := v.toBitVec.isLt
  have hb2 := (sar v 24).toBitVec.isLt
  have e2 : v.toInt = v.toBitVec.toInt := rfl
  have e3 : (sar v 24).toInt = (sar v 24).toBitVec.toInt := rfl
  rw [e2, e3, BitVec.toInt_eq_toNat_cond, BitVec.toInt_eq_toNat_cond, Int.shiftRight_eq_div_pow] at e
  generalize (sar v 24).toBitVec.toNat = A at *
  generalize v.toBitVec.toNat = B at *
  clear e2 e3 h1 h2 h3
  split at e <;> split at e <;> omega
theorem byt_16 (v : Int32) : sar v 16 &&& (255 : Int32) = byt v 16 := by
  have h1 : sar v 16 &&& (255 : Int32) = nI ((sar v 16).toBitVec.toNat % 2 ^ 8) := pk_and _ 8 (by decide)
  have h2 : ush v 16 &&& (255 : Int32) = nI ((ush v 16).toBitVec.toNat % 2 ^ 8) := pk_and _ 8 (by decide)
  have h3 : (ush v 16).toBitVec.toNat = v.toBitVec.toNat / 2 ^ 16 := pk_ushr v 16 16 (by decide)
  unfold byt
  rw [h1, h2, h3]
  refine congrArg nI ?_
  have e : (sar v 16).toInt = v.toInt >>> 16 := pk_shr v _ _ (by decide)
  have hb := v.toBitVec.isLt
  have hb2 := (sar v 16).toBitVec.isLt
  have e2 : v.toInt = v.toBitVec.toInt := rfl
  have e3 : (sar v 16).toInt = (sar v 16).toBitVec.toInt := rfl
  rw [e2, e3, BitVec.toInt_eq_toNat_cond, BitVec.toInt_eq_toNat_cond, Int.shiftRight_eq_div_pow] at e
  generalize (sar v 16).toBitVec.toNat = A at *
  generalize v.toBitVec.toNat = B at *
  clear e2 e3 h1 h2 h3
  split at e <;> split at e <;> omega
theorem byt_8 (v : Int32) : sar v 8 &&& (255 : Int32) = byt v 8 := by
  have h1 : sar v 8 &&& (255 : Int32) = nI ((sar v 8).toBitVec.toNat % 2 ^ 8) := pk_and _ 8 (by decide)
  have h2 : ush v 8 &&& (255 : Int32) = nI ((ush v 8).toBitVec.toNat % 2 ^ 8) := pk_and _ 8 (by decide)
  have h3 : (ush v 8).toBitVec.toNat = v.toBitVec.toNat / 2 ^ 8 := pk_ushr v 8 8 (by decide)
  unfold byt
  rw [h1, h2, h3]
  refine congrArg nI ?_
  have e : (sar v 8).toInt = v.toInt >>> 8 := pk_shr v _ _ (by decide)
  have hb := v.toBitVec.isLt
  have hb2 := (sar v 8).toBitVec.isLt
  have e2 : v.toInt = v.toBitVec.toInt := rfl
  have e3 : (sar v 8).toInt = (sar v 8).toBitVec.toInt := rfl
  rw [e2, e3, BitVec.toInt_eq_toNat_cond, BitVec.toInt_eq_toNat_cond, Int.shiftRight_eq_div_pow] at e
  generalize (sar v 8).toBitVec.toNat = A at *
  generalize v.toBitVec.toNat = B at *
  clear e2 e3 h1 h2 h3
  split at e <;> split at e <;> omega
theorem byt_0 (v : Int32) : sar v 0 &&& (255 : Int32) = byt v 0 := by
  have h1 : sar v 0 &&& (255 : Int32) = nI ((sar v 0).toBitVec.toNat % 2 ^ 8) := pk_and _ 8 (by decide)
  have h2 : ush v 0 &&& (255 : Int32) = nI ((ush v 0).toBitVec.toNat % 2 ^ 8) := pk_and _ 8 (by decide)
  have h3 : (ush v 0).toBitVec.toNat = v.toBitVec.toNat / 2 ^ 0 := pk_ushr v 0 0 (by decide)
  unfold byt
  rw [h1, h2, h3]
  refine congrArg nI ?_
  have e : (sar v 0).toInt = v.toInt >>> 0 := pk_shr v _ _ (by decide)
  have hb := v.toBitVec.isLt
  have hb2 := (sar v 0).toBitVec.isLt
  have e2 : v.toInt = v.toBitVec.toInt := rfl
  have e3 : (sar v 0).toInt = (sar v 0).toBitVec.toInt := rfl
  rw [e2, e3, BitVec.toInt_eq_toNat_cond, BitVec.toInt_eq_toNat_cond, Int.shiftRight_eq_div_pow] at e
  generalize (sar v 0).toBitVec.toNat = A at *
  generalize v.toBitVec.toNat = B at *
  clear e2 e3 h1 h2 h3
  split at e <;> split at e <;> omega
def fd12 (tp : Nat → Int32) (L : Nat) (a b c : Int32) : Nat → Int32 := upd (upd (upd (upd (upd (upd (upd (upd (upd (upd (upd (upd (tp) (L + 0) (byt a 24)) (L + 1) (byt a 16)) (L + 2) (byt a 8)) (L + 3) (byt a 0)) (L + 4) (byt b 24)) (L + 5) (byt b 16)) (L + 6) (byt b 8)) (L + 7) (byt b 0)) (L + 8) (byt c 24)) (L + 9) (byt c 16)) (L + 10) (byt c 8)) (L + 11) (byt c 0)
set_option maxHeartbeats 4000000 in
set_option maxRecDepth 100000 in
theorem C_feed {X : List Int32} {d rc rs n : Nat} {Q : am_Q} {h : am_H} {ik wc : Int32} {a : Int32} {b : Int32} {c : Int32} {r tp cd : Nat → Int32} {L : Nat} (O : OB ik wc h) (Rd : RD r (nI L) tp cd h) (hL96 : L ≤ 96) (k1 : 96 < L + 12 → Q (some (.int (-1000000003))) n h) (k0 : L + 12 ≤ 96 → ∀ h9, RD r (nI (L + 12)) (fd12 tp L a b c) cd h9 → am_fp (fun k => k < 40 ∨ 42 ≤ k) h9 h → Q (some (.int (nI (L + 12)))) n h9) : AW X mX7_feed (d + 12) rc rs 0 [some (.ref 0), some (.int a), some (.int b), some (.int c)] [] n h Q := by
  refine aw_aload_n (npc := 1) rfl dX7_feed_0 rfl ?_
  refine aw_get (npc := 4) dX7_feed_1 rfl kf_X7_44 O.1 rfl ?_
  refine aw_get (npc := 7) dX7_feed_4 rfl kf_X7_234 Rd.2.1 rfl ?_
  refine aw_bipush (npc := 9) (v := 12) (by decide) dX7_feed_7 rfl ?_
  refine aw_iaddV (npc := 10) (v := nI (L + 12)) dX7_feed_9 rfl (nI_add _ 12) ?_
  refine aw_bipush (npc := 12) (v := 96) (by decide) dX7_feed_10 rfl ?_
  refine aw_icmp_le (npc := 15) (tgt := 18) dX7_feed_12 rfl (by decide) (fun hc1 => ?_) (fun hc1 => ?_)
  · have hc1N := (nI_leI (a := (L + 12)) (b := 96) (by omega) (by omega)).mp hc1
    refine aw_aload_n (npc := 19) rfl dX7_feed_18 rfl ?_
    refine aw_get (npc := 22) dX7_feed_19 rfl kf_X7_44 O.1 rfl ?_
    refine aw_iload_n (npc := 23) rfl dX7_feed_22 rfl ?_
    refine aw_callV (npc := 26) (N := mX4_addBytesOf) (b := 40) (mc := 0) (ms := 0) (A := [.int a]) (S := []) (L0 := [some (.ref 40), some (.int a), none]) dX7_feed_23 rfl km_X4_addBytesOf kk_X7_239 Rd.2.1 ⟨by decide, rfl⟩ rfl ⟨rfl, by decide⟩ rfl (Nat.le_of_ble_eq_true rfl) (Nat.zero_add _) (Nat.zero_add _) rfl ?_
    refine aw_bipush (npc := 2) (v := 24) (by decide) dX4_addBytesOf_0 rfl ?_
    refine aw_istore_n (npc := 3) (L' := [some (.ref 40), some (.int a), some (.int 24)]) dX4_addBytesOf_2 rfl (by decide) rfl rfl ?_
    refine aw_iload_n (npc := 4) rfl dX4_addBytesOf_3 rfl ?_
    refine aw_if_lt (npc := 7) (tgt := 48) dX4_addBytesOf_4 rfl (by decide) (fun hc => absurd hc (by decide)) (fun _ => ?_)
    refine aw_aload_n (npc := 8) rfl dX4_addBytesOf_7 rfl ?_
    refine aw_get (npc := 11) dX4_addBytesOf_8 rfl kf_X4_15 Rd.2.1 rfl ?_
    refine aw_bipush (npc := 13) (v := 96) (by decide) dX4_addBytesOf_11 rfl ?_
    refine aw_icmp_ge (npc := 16) (tgt := 48) dX4_addBytesOf_13 rfl (by decide) (fun hc => absurd hc (nI_ge (a := L) (b := 96) (by omega) (by omega))) (fun _ => ?_)
    refine aw_aload_n (npc := 17) rfl dX4_addBytesOf_16 rfl ?_
    refine aw_get (npc := 20) dX4_addBytesOf_17 rfl kf_X4_9 Rd.2.1 rfl ?_
    refine aw_aload_n (npc := 21) rfl dX4_addBytesOf_20 rfl ?_
    refine aw_get (npc := 24) dX4_addBytesOf_21 rfl kf_X4_15 Rd.2.1 rfl ?_
    refine aw_iload_n (npc := 25) rfl dX4_addBytesOf_24 rfl ?_
    refine aw_iload_n (npc := 26) rfl dX4_addBytesOf_25 rfl ?_
    refine aw_iushrV (npc := 27) (v := ush a 24) dX4_addBytesOf_26 rfl (rfl) ?_
    refine aw_sipush (npc := 30) (v := 255) (by decide) dX4_addBytesOf_27 rfl ?_
    refine aw_iandV (npc := 31) (v := byt a 24) dX4_addBytesOf_30 rfl (rfl) ?_
    refine aw_iast (npc := 32) (j := L) dX4_addBytesOf_31 rfl Rd.2.2.1 (am_ix_nI (by omega)) (by rw [tl_len]; omega) rfl ?_
    have Rd3 := rd_byte (j := L) (v := byt a 24) Rd
    have O4 := ob_out (a := 41) (c := .inl (0, (tl 96 tp).set L (byt a 24))) (by omega) O
    refine aw_aload_n (npc := 33) rfl dX4_addBytesOf_32 rfl ?_
    refine aw_dup (npc := 34) rfl dX4_addBytesOf_33 rfl ?_
    refine aw_get (npc := 37) dX4_addBytesOf_34 rfl kf_X4_15 Rd3.2.1 rfl ?_
    refine aw_iconst (npc := 38) (v := 1) (by decide) dX4_addBytesOf_37 rfl ?_
    refine aw_iaddV (npc := 39) (v := nI (L + 1)) dX4_addBytesOf_38 rfl (nI_add _ 1) ?_
    refine aw_put (npc := 42) dX4_addBytesOf_39 rfl kf_X4_15 Rd3.2.1 (Nat.le_of_ble_eq_true rfl) (am_ok_int _) rfl ?_
    have Rd5 := rd_len (v := nI (L + 1)) Rd3
    have O6 := ob_out (a := 40) (c := .inr (4, ([.ref 41, .int (nI L)] : List Value).set 1 (.int (nI (L + 1))))) (by omega) O4
    refine aw_iinc (npc := 45) (v := 16) (L' := [some (.ref 40), some (.int a), some (.int 16)]) dX4_addBytesOf_42 rfl rfl (by decide) (by decide) rfl rfl ?_
    refine aw_goto (npc := 3) dX4_addBytesOf_45 (by decide) ?_
    refine aw_iload_n (npc := 4) rfl dX4_addBytesOf_3 rfl ?_
    refine aw_if_lt (npc := 7) (tgt := 48) dX4_addBytesOf_4 rfl (by decide) (fun hc => absurd hc (by decide)) (fun _ => ?_)
    refine aw_aload_n (npc := 8) rfl dX4_addBytesOf_7 rfl ?_
    refine aw_get (npc := 11) dX4_addBytesOf_8 rfl kf_X4_15 Rd5.2.1 rfl ?_
    refine aw_bipush (npc := 13) (v := 96) (by decide) dX4_addBytesOf_11 rfl ?_
    refine aw_icmp_ge (npc := 16) (tgt := 48) dX4_addBytesOf_13 rfl (by decide) (fun hc => absurd hc (nI_ge (a := (L + 1)) (b := 96) (by omega) (by omega))) (fun _ => ?_)
    refine aw_aload_n (npc := 17) rfl dX4_addBytesOf_16 rfl ?_
    refine aw_get (npc := 20) dX4_addBytesOf_17 rfl kf_X4_9 Rd5.2.1 rfl ?_
    refine aw_aload_n (npc := 21) rfl dX4_addBytesOf_20 rfl ?_
    refine aw_get (npc := 24) dX4_addBytesOf_21 rfl kf_X4_15 Rd5.2.1 rfl ?_
    refine aw_iload_n (npc := 25) rfl dX4_addBytesOf_24 rfl ?_
    refine aw_iload_n (npc := 26) rfl dX4_addBytesOf_25 rfl ?_
    refine aw_iushrV (npc := 27) (v := ush a 16) dX4_addBytesOf_26 rfl (rfl) ?_
    refine aw_sipush (npc := 30) (v := 255) (by decide) dX4_addBytesOf_27 rfl ?_
    refine aw_iandV (npc := 31) (v := byt a 16) dX4_addBytesOf_30 rfl (rfl) ?_
    refine aw_iast (npc := 32) (j := (L + 1)) dX4_addBytesOf_31 rfl Rd5.2.2.1 (am_ix_nI (by omega)) (by rw [tl_len]; omega) rfl ?_
    have Rd8 := rd_byte (j := (L + 1)) (v := byt a 16) Rd5
    have O9 := ob_out (a := 41) (c := .inl (0, (tl 96 (upd tp L (byt a 24))).set (L + 1) (byt a 16))) (by omega) O6
    refine aw_aload_n (npc := 33) rfl dX4_addBytesOf_32 rfl ?_
    refine aw_dup (npc := 34) rfl dX4_addBytesOf_33 rfl ?_
    refine aw_get (npc := 37) dX4_addBytesOf_34 rfl kf_X4_15 Rd8.2.1 rfl ?_
    refine aw_iconst (npc := 38) (v := 1) (by decide) dX4_addBytesOf_37 rfl ?_
    refine aw_iaddV (npc := 39) (v := nI ((L + 1) + 1)) dX4_addBytesOf_38 rfl (nI_add _ 1) ?_
    refine aw_put (npc := 42) dX4_addBytesOf_39 rfl kf_X4_15 Rd8.2.1 (Nat.le_of_ble_eq_true rfl) (am_ok_int _) rfl ?_
    have Rd10 := rd_len (v := nI ((L + 1) + 1)) Rd8
    have O11 := ob_out (a := 40) (c := .inr (4, ([.ref 41, .int (nI (L + 1))] : List Value).set 1 (.int (nI ((L + 1) + 1))))) (by omega) O9
    refine aw_iinc (npc := 45) (v := 8) (L' := [some (.ref 40), some (.int a), some (.int 8)]) dX4_addBytesOf_42 rfl rfl (by decide) (by decide) rfl rfl ?_
    refine aw_goto (npc := 3) dX4_addBytesOf_45 (by decide) ?_
    refine aw_iload_n (npc := 4) rfl dX4_addBytesOf_3 rfl ?_
    refine aw_if_lt (npc := 7) (tgt := 48) dX4_addBytesOf_4 rfl (by decide) (fun hc => absurd hc (by decide)) (fun _ => ?_)
    refine aw_aload_n (npc := 8) rfl dX4_addBytesOf_7 rfl ?_
    refine aw_get (npc := 11) dX4_addBytesOf_8 rfl kf_X4_15 Rd10.2.1 rfl ?_
    refine aw_bipush (npc := 13) (v := 96) (by decide) dX4_addBytesOf_11 rfl ?_
    refine aw_icmp_ge (npc := 16) (tgt := 48) dX4_addBytesOf_13 rfl (by decide) (fun hc => absurd hc (nI_ge (a := ((L + 1) + 1)) (b := 96) (by omega) (by omega))) (fun _ => ?_)
    refine aw_aload_n (npc := 17) rfl dX4_addBytesOf_16 rfl ?_
    refine aw_get (npc := 20) dX4_addBytesOf_17 rfl kf_X4_9 Rd10.2.1 rfl ?_
    refine aw_aload_n (npc := 21) rfl dX4_addBytesOf_20 rfl ?_
    refine aw_get (npc := 24) dX4_addBytesOf_21 rfl kf_X4_15 Rd10.2.1 rfl ?_
    refine aw_iload_n (npc := 25) rfl dX4_addBytesOf_24 rfl ?_
    refine aw_iload_n (npc := 26) rfl dX4_addBytesOf_25 rfl ?_
    refine aw_iushrV (npc := 27) (v := ush a 8) dX4_addBytesOf_26 rfl (rfl) ?_
    refine aw_sipush (npc := 30) (v := 255) (by decide) dX4_addBytesOf_27 rfl ?_
    refine aw_iandV (npc := 31) (v := byt a 8) dX4_addBytesOf_30 rfl (rfl) ?_
    refine aw_iast (npc := 32) (j := ((L + 1) + 1)) dX4_addBytesOf_31 rfl Rd10.2.2.1 (am_ix_nI (by omega)) (by rw [tl_len]; omega) rfl ?_
    have Rd13 := rd_byte (j := ((L + 1) + 1)) (v := byt a 8) Rd10
    have O14 := ob_out (a := 41) (c := .inl (0, (tl 96 (upd (upd tp L (byt a 24)) (L + 1) (byt a 16))).set ((L + 1) + 1) (byt a 8))) (by omega) O11
    refine aw_aload_n (npc := 33) rfl dX4_addBytesOf_32 rfl ?_
    refine aw_dup (npc := 34) rfl dX4_addBytesOf_33 rfl ?_
    refine aw_get (npc := 37) dX4_addBytesOf_34 rfl kf_X4_15 Rd13.2.1 rfl ?_
    refine aw_iconst (npc := 38) (v := 1) (by decide) dX4_addBytesOf_37 rfl ?_
    refine aw_iaddV (npc := 39) (v := nI (((L + 1) + 1) + 1)) dX4_addBytesOf_38 rfl (nI_add _ 1) ?_
    refine aw_put (npc := 42) dX4_addBytesOf_39 rfl kf_X4_15 Rd13.2.1 (Nat.le_of_ble_eq_true rfl) (am_ok_int _) rfl ?_
    have Rd15 := rd_len (v := nI (((L + 1) + 1) + 1)) Rd13
    have O16 := ob_out (a := 40) (c := .inr (4, ([.ref 41, .int (nI ((L + 1) + 1))] : List Value).set 1 (.int (nI (((L + 1) + 1) + 1))))) (by omega) O14
    refine aw_iinc (npc := 45) (v := 0) (L' := [some (.ref 40), some (.int a), some (.int 0)]) dX4_addBytesOf_42 rfl rfl (by decide) (by decide) rfl rfl ?_
    refine aw_goto (npc := 3) dX4_addBytesOf_45 (by decide) ?_
    refine aw_iload_n (npc := 4) rfl dX4_addBytesOf_3 rfl ?_
    refine aw_if_lt (npc := 7) (tgt := 48) dX4_addBytesOf_4 rfl (by decide) (fun hc => absurd hc (by decide)) (fun _ => ?_)
    refine aw_aload_n (npc := 8) rfl dX4_addBytesOf_7 rfl ?_
    refine aw_get (npc := 11) dX4_addBytesOf_8 rfl kf_X4_15 Rd15.2.1 rfl ?_
    refine aw_bipush (npc := 13) (v := 96) (by decide) dX4_addBytesOf_11 rfl ?_
    refine aw_icmp_ge (npc := 16) (tgt := 48) dX4_addBytesOf_13 rfl (by decide) (fun hc => absurd hc (nI_ge (a := (((L + 1) + 1) + 1)) (b := 96) (by omega) (by omega))) (fun _ => ?_)
    refine aw_aload_n (npc := 17) rfl dX4_addBytesOf_16 rfl ?_
    refine aw_get (npc := 20) dX4_addBytesOf_17 rfl kf_X4_9 Rd15.2.1 rfl ?_
    refine aw_aload_n (npc := 21) rfl dX4_addBytesOf_20 rfl ?_
    refine aw_get (npc := 24) dX4_addBytesOf_21 rfl kf_X4_15 Rd15.2.1 rfl ?_
    refine aw_iload_n (npc := 25) rfl dX4_addBytesOf_24 rfl ?_
    refine aw_iload_n (npc := 26) rfl dX4_addBytesOf_25 rfl ?_
    refine aw_iushrV (npc := 27) (v := ush a 0) dX4_addBytesOf_26 rfl (rfl) ?_
    refine aw_sipush (npc := 30) (v := 255) (by decide) dX4_addBytesOf_27 rfl ?_
    refine aw_iandV (npc := 31) (v := byt a 0) dX4_addBytesOf_30 rfl (rfl) ?_
    refine aw_iast (npc := 32) (j := (((L + 1) + 1) + 1)) dX4_addBytesOf_31 rfl Rd15.2.2.1 (am_ix_nI (by omega)) (by rw [tl_len]; omega) rfl ?_
    have Rd18 := rd_byte (j := (((L + 1) + 1) + 1)) (v := byt a 0) Rd15
    have O19 := ob_out (a := 41) (c := .inl (0, (tl 96 (upd (upd (upd tp L (byt a 24)) (L + 1) (byt a 16)) ((L + 1) + 1) (byt a 8))).set (((L + 1) + 1) + 1) (byt a 0))) (by omega) O16
    refine aw_aload_n (npc := 33) rfl dX4_addBytesOf_32 rfl ?_
    refine aw_dup (npc := 34) rfl dX4_addBytesOf_33 rfl ?_
    refine aw_get (npc := 37) dX4_addBytesOf_34 rfl kf_X4_15 Rd18.2.1 rfl ?_
    refine aw_iconst (npc := 38) (v := 1) (by decide) dX4_addBytesOf_37 rfl ?_
    refine aw_iaddV (npc := 39) (v := nI ((((L + 1) + 1) + 1) + 1)) dX4_addBytesOf_38 rfl (nI_add _ 1) ?_
    refine aw_put (npc := 42) dX4_addBytesOf_39 rfl kf_X4_15 Rd18.2.1 (Nat.le_of_ble_eq_true rfl) (am_ok_int _) rfl ?_
    have Rd20 := rd_len (v := nI ((((L + 1) + 1) + 1) + 1)) Rd18
    have O21 := ob_out (a := 40) (c := .inr (4, ([.ref 41, .int (nI (((L + 1) + 1) + 1))] : List Value).set 1 (.int (nI ((((L + 1) + 1) + 1) + 1))))) (by omega) O19
    refine aw_iinc (npc := 45) (v := (-8)) (L' := [some (.ref 40), some (.int a), some (.int (-8))]) dX4_addBytesOf_42 rfl rfl (by decide) (by decide) rfl rfl ?_
    refine aw_goto (npc := 3) dX4_addBytesOf_45 (by decide) ?_
    refine aw_iload_n (npc := 4) rfl dX4_addBytesOf_3 rfl ?_
    refine aw_if_lt (npc := 7) (tgt := 48) dX4_addBytesOf_4 rfl (by decide) (fun _ => ?_) (fun hc => absurd (by decide) hc)
    refine aw_vret rfl dX4_addBytesOf_48 ?_
    refine aw_aload_n (npc := 27) rfl dX7_feed_26 rfl ?_
    refine aw_get (npc := 30) dX7_feed_27 rfl kf_X7_44 O21.1 rfl ?_
    refine aw_iload_n (npc := 31) rfl dX7_feed_30 rfl ?_
    refine aw_callV (npc := 34) (N := mX4_addBytesOf) (b := 40) (mc := 0) (ms := 0) (A := [.int b]) (S := []) (L0 := [some (.ref 40), some (.int b), none]) dX7_feed_31 rfl km_X4_addBytesOf kk_X7_239 Rd20.2.1 ⟨by decide, rfl⟩ rfl ⟨rfl, by decide⟩ rfl (Nat.le_of_ble_eq_true rfl) (Nat.zero_add _) (Nat.zero_add _) rfl ?_
    refine aw_bipush (npc := 2) (v := 24) (by decide) dX4_addBytesOf_0 rfl ?_
    refine aw_istore_n (npc := 3) (L' := [some (.ref 40), some (.int b), some (.int 24)]) dX4_addBytesOf_2 rfl (by decide) rfl rfl ?_
    refine aw_iload_n (npc := 4) rfl dX4_addBytesOf_3 rfl ?_
    refine aw_if_lt (npc := 7) (tgt := 48) dX4_addBytesOf_4 rfl (by decide) (fun hc => absurd hc (by decide)) (fun _ => ?_)
    refine aw_aload_n (npc := 8) rfl dX4_addBytesOf_7 rfl ?_
    refine aw_get (npc := 11) dX4_addBytesOf_8 rfl kf_X4_15 Rd20.2.1 rfl ?_
    refine aw_bipush (npc := 13) (v := 96) (by decide) dX4_addBytesOf_11 rfl ?_
    refine aw_icmp_ge (npc := 16) (tgt := 48) dX4_addBytesOf_13 rfl (by decide) (fun hc => absurd hc (nI_ge (a := ((((L + 1) + 1) + 1) + 1)) (b := 96) (by omega) (by omega))) (fun _ => ?_)
    refine aw_aload_n (npc := 17) rfl dX4_addBytesOf_16 rfl ?_
    refine aw_get (npc := 20) dX4_addBytesOf_17 rfl kf_X4_9 Rd20.2.1 rfl ?_
    refine aw_aload_n (npc := 21) rfl dX4_addBytesOf_20 rfl ?_
    refine aw_get (npc := 24) dX4_addBytesOf_21 rfl kf_X4_15 Rd20.2.1 rfl ?_
    refine aw_iload_n (npc := 25) rfl dX4_addBytesOf_24 rfl ?_
    refine aw_iload_n (npc := 26) rfl dX4_addBytesOf_25 rfl ?_
    refine aw_iushrV (npc := 27) (v := ush b 24) dX4_addBytesOf_26 rfl (rfl) ?_
    refine aw_sipush (npc := 30) (v := 255) (by decide) dX4_addBytesOf_27 rfl ?_
    refine aw_iandV (npc := 31) (v := byt b 24) dX4_addBytesOf_30 rfl (rfl) ?_
    refine aw_iast (npc := 32) (j := ((((L + 1) + 1) + 1) + 1)) dX4_addBytesOf_31 rfl Rd20.2.2.1 (am_ix_nI (by omega)) (by rw [tl_len]; omega) rfl ?_
    have Rd23 := rd_byte (j := ((((L + 1) + 1) + 1) + 1)) (v := byt b 24) Rd20
    have O24 := ob_out (a := 41) (c := .inl (0, (tl 96 (upd (upd (upd (upd tp L (byt a 24)) (L + 1) (byt a 16)) ((L + 1) + 1) (byt a 8)) (((L + 1) + 1) + 1) (byt a 0))).set ((((L + 1) + 1) + 1) + 1) (byt b 24))) (by omega) O21
    refine aw_aload_n (npc := 33) rfl dX4_addBytesOf_32 rfl ?_
    refine aw_dup (npc := 34) rfl dX4_addBytesOf_33 rfl ?_
    refine aw_get (npc := 37) dX4_addBytesOf_34 rfl kf_X4_15 Rd23.2.1 rfl ?_
    refine aw_iconst (npc := 38) (v := 1) (by decide) dX4_addBytesOf_37 rfl ?_
    refine aw_iaddV (npc := 39) (v := nI (((((L + 1) + 1) + 1) + 1) + 1)) dX4_addBytesOf_38 rfl (nI_add _ 1) ?_
    refine aw_put (npc := 42) dX4_addBytesOf_39 rfl kf_X4_15 Rd23.2.1 (Nat.le_of_ble_eq_true rfl) (am_ok_int _) rfl ?_
    have Rd25 := rd_len (v := nI (((((L + 1) + 1) + 1) + 1) + 1)) Rd23
    have O26 := ob_out (a := 40) (c := .inr (4, ([.ref 41, .int (nI ((((L + 1) + 1) + 1) + 1))] : List Value).set 1 (.int (nI (((((L + 1) + 1) + 1) + 1) + 1))))) (by omega) O24
    refine aw_iinc (npc := 45) (v := 16) (L' := [some (.ref 40), some (.int b), some (.int 16)]) dX4_addBytesOf_42 rfl rfl (by decide) (by decide) rfl rfl ?_
    refine aw_goto (npc := 3) dX4_addBytesOf_45 (by decide) ?_
    refine aw_iload_n (npc := 4) rfl dX4_addBytesOf_3 rfl ?_
    refine aw_if_lt (npc := 7) (tgt := 48) dX4_addBytesOf_4 rfl (by decide) (fun hc => absurd hc (by decide)) (fun _ => ?_)
    refine aw_aload_n (npc := 8) rfl dX4_addBytesOf_7 rfl ?_
    refine aw_get (npc := 11) dX4_addBytesOf_8 rfl kf_X4_15 Rd25.2.1 rfl ?_
    refine aw_bipush (npc := 13) (v := 96) (by decide) dX4_addBytesOf_11 rfl ?_
    refine aw_icmp_ge (npc := 16) (tgt := 48) dX4_addBytesOf_13 rfl (by decide) (fun hc => absurd hc (nI_ge (a := (((((L + 1) + 1) + 1) + 1) + 1)) (b := 96) (by omega) (by omega))) (fun _ => ?_)
    refine aw_aload_n (npc := 17) rfl dX4_addBytesOf_16 rfl ?_
    refine aw_get (npc := 20) dX4_addBytesOf_17 rfl kf_X4_9 Rd25.2.1 rfl ?_
    refine aw_aload_n (npc := 21) rfl dX4_addBytesOf_20 rfl ?_
    refine aw_get (npc := 24) dX4_addBytesOf_21 rfl kf_X4_15 Rd25.2.1 rfl ?_
    refine aw_iload_n (npc := 25) rfl dX4_addBytesOf_24 rfl ?_
    refine aw_iload_n (npc := 26) rfl dX4_addBytesOf_25 rfl ?_
    refine aw_iushrV (npc := 27) (v := ush b 16) dX4_addBytesOf_26 rfl (rfl) ?_
    refine aw_sipush (npc := 30) (v := 255) (by decide) dX4_addBytesOf_27 rfl ?_
    refine aw_iandV (npc := 31) (v := byt b 16) dX4_addBytesOf_30 rfl (rfl) ?_
    refine aw_iast (npc := 32) (j := (((((L + 1) + 1) + 1) + 1) + 1)) dX4_addBytesOf_31 rfl Rd25.2.2.1 (am_ix_nI (by omega)) (by rw [tl_len]; omega) rfl ?_
    have Rd28 := rd_byte (j := (((((L + 1) + 1) + 1) + 1) + 1)) (v := byt b 16) Rd25
    have O29 := ob_out (a := 41) (c := .inl (0, (tl 96 (upd (upd (upd (upd (upd tp L (byt a 24)) (L + 1) (byt a 16)) ((L + 1) + 1) (byt a 8)) (((L + 1) + 1) + 1) (byt a 0)) ((((L + 1) + 1) + 1) + 1) (byt b 24))).set (((((L + 1) + 1) + 1) + 1) + 1) (byt b 16))) (by omega) O26
    refine aw_aload_n (npc := 33) rfl dX4_addBytesOf_32 rfl ?_
    refine aw_dup (npc := 34) rfl dX4_addBytesOf_33 rfl ?_
    refine aw_get (npc := 37) dX4_addBytesOf_34 rfl kf_X4_15 Rd28.2.1 rfl ?_
    refine aw_iconst (npc := 38) (v := 1) (by decide) dX4_addBytesOf_37 rfl ?_
    refine aw_iaddV (npc := 39) (v := nI ((((((L + 1) + 1) + 1) + 1) + 1) + 1)) dX4_addBytesOf_38 rfl (nI_add _ 1) ?_
    refine aw_put (npc := 42) dX4_addBytesOf_39 rfl kf_X4_15 Rd28.2.1 (Nat.le_of_ble_eq_true rfl) (am_ok_int _) rfl ?_
    have Rd30 := rd_len (v := nI ((((((L + 1) + 1) + 1) + 1) + 1) + 1)) Rd28
    have O31 := ob_out (a := 40) (c := .inr (4, ([.ref 41, .int (nI (((((L + 1) + 1) + 1) + 1) + 1))] : List Value).set 1 (.int (nI ((((((L + 1) + 1) + 1) + 1) + 1) + 1))))) (by omega) O29
    refine aw_iinc (npc := 45) (v := 8) (L' := [some (.ref 40), some (.int b), some (.int 8)]) dX4_addBytesOf_42 rfl rfl (by decide) (by decide) rfl rfl ?_
    refine aw_goto (npc := 3) dX4_addBytesOf_45 (by decide) ?_
    refine aw_iload_n (npc := 4) rfl dX4_addBytesOf_3 rfl ?_
    refine aw_if_lt (npc := 7) (tgt := 48) dX4_addBytesOf_4 rfl (by decide) (fun hc => absurd hc (by decide)) (fun _ => ?_)
    refine aw_aload_n (npc := 8) rfl dX4_addBytesOf_7 rfl ?_
    refine aw_get (npc := 11) dX4_addBytesOf_8 rfl kf_X4_15 Rd30.2.1 rfl ?_
    refine aw_bipush (npc := 13) (v := 96) (by decide) dX4_addBytesOf_11 rfl ?_
    refine aw_icmp_ge (npc := 16) (tgt := 48) dX4_addBytesOf_13 rfl (by decide) (fun hc => absurd hc (nI_ge (a := ((((((L + 1) + 1) + 1) + 1) + 1) + 1)) (b := 96) (by omega) (by omega))) (fun _ => ?_)
    refine aw_aload_n (npc := 17) rfl dX4_addBytesOf_16 rfl ?_
    refine aw_get (npc := 20) dX4_addBytesOf_17 rfl kf_X4_9 Rd30.2.1 rfl ?_
    refine aw_aload_n (npc := 21) rfl dX4_addBytesOf_20 rfl ?_
    refine aw_get (npc := 24) dX4_addBytesOf_21 rfl kf_X4_15 Rd30.2.1 rfl ?_
    refine aw_iload_n (npc := 25) rfl dX4_addBytesOf_24 rfl ?_
    refine aw_iload_n (npc := 26) rfl dX4_addBytesOf_25 rfl ?_
    refine aw_iushrV (npc := 27) (v := ush b 8) dX4_addBytesOf_26 rfl (rfl) ?_
    refine aw_sipush (npc := 30) (v := 255) (by decide) dX4_addBytesOf_27 rfl ?_
    refine aw_iandV (npc := 31) (v := byt b 8) dX4_addBytesOf_30 rfl (rfl) ?_
    refine aw_iast (npc := 32) (j := ((((((L + 1) + 1) + 1) + 1) + 1) + 1)) dX4_addBytesOf_31 rfl Rd30.2.2.1 (am_ix_nI (by omega)) (by rw [tl_len]; omega) rfl ?_
    have Rd33 := rd_byte (j := ((((((L + 1) + 1) + 1) + 1) + 1) + 1)) (v := byt b 8) Rd30
    have O34 := ob_out (a := 41) (c := .inl (0, (tl 96 (upd (upd (upd (upd (upd (upd tp L (byt a 24)) (L + 1) (byt a 16)) ((L + 1) + 1) (byt a 8)) (((L + 1) + 1) + 1) (byt a 0)) ((((L + 1) + 1) + 1) + 1) (byt b 24)) (((((L + 1) + 1) + 1) + 1) + 1) (byt b 16))).set ((((((L + 1) + 1) + 1) + 1) + 1) + 1) (byt b 8))) (by omega) O31
    refine aw_aload_n (npc := 33) rfl dX4_addBytesOf_32 rfl ?_
    refine aw_dup (npc := 34) rfl dX4_addBytesOf_33 rfl ?_
    refine aw_get (npc := 37) dX4_addBytesOf_34 rfl kf_X4_15 Rd33.2.1 rfl ?_
    refine aw_iconst (npc := 38) (v := 1) (by decide) dX4_addBytesOf_37 rfl ?_
    refine aw_iaddV (npc := 39) (v := nI (((((((L + 1) + 1) + 1) + 1) + 1) + 1) + 1)) dX4_addBytesOf_38 rfl (nI_add _ 1) ?_
    refine aw_put (npc := 42) dX4_addBytesOf_39 rfl kf_X4_15 Rd33.2.1 (Nat.le_of_ble_eq_true rfl) (am_ok_int _) rfl ?_
    have Rd35 := rd_len (v := nI (((((((L + 1) + 1) + 1) + 1) + 1) + 1) + 1)) Rd33
    have O36 := ob_out (a := 40) (c := .inr (4, ([.ref 41, .int (nI ((((((L + 1) + 1) + 1) + 1) + 1) + 1))] : List Value).set 1 (.int (nI (((((((L + 1) + 1) + 1) + 1) + 1) + 1) + 1))))) (by omega) O34
    refine aw_iinc (npc := 45) (v := 0) (L' := [some (.ref 40), some (.int b), some (.int 0)]) dX4_addBytesOf_42 rfl rfl (by decide) (by decide) rfl rfl ?_
    refine aw_goto (npc := 3) dX4_addBytesOf_45 (by decide) ?_
    refine aw_iload_n (npc := 4) rfl dX4_addBytesOf_3 rfl ?_
    refine aw_if_lt (npc := 7) (tgt := 48) dX4_addBytesOf_4 rfl (by decide) (fun hc => absurd hc (by decide)) (fun _ => ?_)
    refine aw_aload_n (npc := 8) rfl dX4_addBytesOf_7 rfl ?_
    refine aw_get (npc := 11) dX4_addBytesOf_8 rfl kf_X4_15 Rd35.2.1 rfl ?_
    refine aw_bipush (npc := 13) (v := 96) (by decide) dX4_addBytesOf_11 rfl ?_
    refine aw_icmp_ge (npc := 16) (tgt := 48) dX4_addBytesOf_13 rfl (by decide) (fun hc => absurd hc (nI_ge (a := (((((((L + 1) + 1) + 1) + 1) + 1) + 1) + 1)) (b := 96) (by omega) (by omega))) (fun _ => ?_)
    refine aw_aload_n (npc := 17) rfl dX4_addBytesOf_16 rfl ?_
    refine aw_get (npc := 20) dX4_addBytesOf_17 rfl kf_X4_9 Rd35.2.1 rfl ?_
    refine aw_aload_n (npc := 21) rfl dX4_addBytesOf_20 rfl ?_
    refine aw_get (npc := 24) dX4_addBytesOf_21 rfl kf_X4_15 Rd35.2.1 rfl ?_
    refine aw_iload_n (npc := 25) rfl dX4_addBytesOf_24 rfl ?_
    refine aw_iload_n (npc := 26) rfl dX4_addBytesOf_25 rfl ?_
    refine aw_iushrV (npc := 27) (v := ush b 0) dX4_addBytesOf_26 rfl (rfl) ?_
    refine aw_sipush (npc := 30) (v := 255) (by decide) dX4_addBytesOf_27 rfl ?_
    refine aw_iandV (npc := 31) (v := byt b 0) dX4_addBytesOf_30 rfl (rfl) ?_
    refine aw_iast (npc := 32) (j := (((((((L + 1) + 1) + 1) + 1) + 1) + 1) + 1)) dX4_addBytesOf_31 rfl Rd35.2.2.1 (am_ix_nI (by omega)) (by rw [tl_len]; omega) rfl ?_
    have Rd38 := rd_byte (j := (((((((L + 1) + 1) + 1) + 1) + 1) + 1) + 1)) (v := byt b 0) Rd35
    have O39 := ob_out (a := 41) (c := .inl (0, (tl 96 (upd (upd (upd (upd (upd (upd (upd tp L (byt a 24)) (L + 1) (byt a 16)) ((L + 1) + 1) (byt a 8)) (((L + 1) + 1) + 1) (byt a 0)) ((((L + 1) + 1) + 1) + 1) (byt b 24)) (((((L + 1) + 1) + 1) + 1) + 1) (byt b 16)) ((((((L + 1) + 1) + 1) + 1) + 1) + 1) (byt b 8))).set (((((((L + 1) + 1) + 1) + 1) + 1) + 1) + 1) (byt b 0))) (by omega) O36
    refine aw_aload_n (npc := 33) rfl dX4_addBytesOf_32 rfl ?_
    refine aw_dup (npc := 34) rfl dX4_addBytesOf_33 rfl ?_
    refine aw_get (npc := 37) dX4_addBytesOf_34 rfl kf_X4_15 Rd38.2.1 rfl ?_
    refine aw_iconst (npc := 38) (v := 1) (by decide) dX4_addBytesOf_37 rfl ?_
    refine aw_iaddV (npc := 39) (v := nI ((((((((L + 1) + 1) + 1) + 1) + 1) + 1) + 1) + 1)) dX4_addBytesOf_38 rfl (nI_add _ 1) ?_
    refine aw_put (npc := 42) dX4_addBytesOf_39 rfl kf_X4_15 Rd38.2.1 (Nat.le_of_ble_eq_true rfl) (am_ok_int _) rfl ?_
    have Rd40 := rd_len (v := nI ((((((((L + 1) + 1) + 1) + 1) + 1) + 1) + 1) + 1)) Rd38
    have O41 := ob_out (a := 40) (c := .inr (4, ([.ref 41, .int (nI (((((((L + 1) + 1) + 1) + 1) + 1) + 1) + 1))] : List Value).set 1 (.int (nI ((((((((L + 1) + 1) + 1) + 1) + 1) + 1) + 1) + 1))))) (by omega) O39
    refine aw_iinc (npc := 45) (v := (-8)) (L' := [some (.ref 40), some (.int b), some (.int (-8))]) dX4_addBytesOf_42 rfl rfl (by decide) (by decide) rfl rfl ?_
    refine aw_goto (npc := 3) dX4_addBytesOf_45 (by decide) ?_
    refine aw_iload_n (npc := 4) rfl dX4_addBytesOf_3 rfl ?_
    refine aw_if_lt (npc := 7) (tgt := 48) dX4_addBytesOf_4 rfl (by decide) (fun _ => ?_) (fun hc => absurd (by decide) hc)
    refine aw_vret rfl dX4_addBytesOf_48 ?_
    refine aw_aload_n (npc := 35) rfl dX7_feed_34 rfl ?_
    refine aw_get (npc := 38) dX7_feed_35 rfl kf_X7_44 O41.1 rfl ?_
    refine aw_iload_n (npc := 39) rfl dX7_feed_38 rfl ?_
    refine aw_callV (npc := 42) (N := mX4_addBytesOf) (b := 40) (mc := 0) (ms := 0) (A := [.int c]) (S := []) (L0 := [some (.ref 40), some (.int c), none]) dX7_feed_39 rfl km_X4_addBytesOf kk_X7_239 Rd40.2.1 ⟨by decide, rfl⟩ rfl ⟨rfl, by decide⟩ rfl (Nat.le_of_ble_eq_true rfl) (Nat.zero_add _) (Nat.zero_add _) rfl ?_
    refine aw_bipush (npc := 2) (v := 24) (by decide) dX4_addBytesOf_0 rfl ?_
    refine aw_istore_n (npc := 3) (L' := [some (.ref 40), some (.int c), some (.int 24)]) dX4_addBytesOf_2 rfl (by decide) rfl rfl ?_
    refine aw_iload_n (npc := 4) rfl dX4_addBytesOf_3 rfl ?_
    refine aw_if_lt (npc := 7) (tgt := 48) dX4_addBytesOf_4 rfl (by decide) (fun hc => absurd hc (by decide)) (fun _ => ?_)
    refine aw_aload_n (npc := 8) rfl dX4_addBytesOf_7 rfl ?_
    refine aw_get (npc := 11) dX4_addBytesOf_8 rfl kf_X4_15 Rd40.2.1 rfl ?_
    refine aw_bipush (npc := 13) (v := 96) (by decide) dX4_addBytesOf_11 rfl ?_
    refine aw_icmp_ge (npc := 16) (tgt := 48) dX4_addBytesOf_13 rfl (by decide) (fun hc => absurd hc (nI_ge (a := ((((((((L + 1) + 1) + 1) + 1) + 1) + 1) + 1) + 1)) (b := 96) (by omega) (by omega))) (fun _ => ?_)
    refine aw_aload_n (npc := 17) rfl dX4_addBytesOf_16 rfl ?_
    refine aw_get (npc := 20) dX4_addBytesOf_17 rfl kf_X4_9 Rd40.2.1 rfl ?_
    refine aw_aload_n (npc := 21) rfl dX4_addBytesOf_20 rfl ?_
    refine aw_get (npc := 24) dX4_addBytesOf_21 rfl kf_X4_15 Rd40.2.1 rfl ?_
    refine aw_iload_n (npc := 25) rfl dX4_addBytesOf_24 rfl ?_
    refine aw_iload_n (npc := 26) rfl dX4_addBytesOf_25 rfl ?_
    refine aw_iushrV (npc := 27) (v := ush c 24) dX4_addBytesOf_26 rfl (rfl) ?_
    refine aw_sipush (npc := 30) (v := 255) (by decide) dX4_addBytesOf_27 rfl ?_
    refine aw_iandV (npc := 31) (v := byt c 24) dX4_addBytesOf_30 rfl (rfl) ?_
    refine aw_iast (npc := 32) (j := ((((((((L + 1) + 1) + 1) + 1) + 1) + 1) + 1) + 1)) dX4_addBytesOf_31 rfl Rd40.2.2.1 (am_ix_nI (by omega)) (by rw [tl_len]; omega) rfl ?_
    have Rd43 := rd_byte (j := ((((((((L + 1) + 1) + 1) + 1) + 1) + 1) + 1) + 1)) (v := byt c 24) Rd40
    have O44 := ob_out (a := 41) (c := .inl (0, (tl 96 (upd (upd (upd (upd (upd (upd (upd (upd tp L (byt a 24)) (L + 1) (byt a 16)) ((L + 1) + 1) (byt a 8)) (((L + 1) + 1) + 1) (byt a 0)) ((((L + 1) + 1) + 1) + 1) (byt b 24)) (((((L + 1) + 1) + 1) + 1) + 1) (byt b 16)) ((((((L + 1) + 1) + 1) + 1) + 1) + 1) (byt b 8)) (((((((L + 1) + 1) + 1) + 1) + 1) + 1) + 1) (byt b 0))).set ((((((((L + 1) + 1) + 1) + 1) + 1) + 1) + 1) + 1) (byt c 24))) (by omega) O41
    refine aw_aload_n (npc := 33) rfl dX4_addBytesOf_32 rfl ?_
    refine aw_dup (npc := 34) rfl dX4_addBytesOf_33 rfl ?_
    refine aw_get (npc := 37) dX4_addBytesOf_34 rfl kf_X4_15 Rd43.2.1 rfl ?_
    refine aw_iconst (npc := 38) (v := 1) (by decide) dX4_addBytesOf_37 rfl ?_
    refine aw_iaddV (npc := 39) (v := nI (((((((((L + 1) + 1) + 1) + 1) + 1) + 1) + 1) + 1) + 1)) dX4_addBytesOf_38 rfl (nI_add _ 1) ?_
    refine aw_put (npc := 42) dX4_addBytesOf_39 rfl kf_X4_15 Rd43.2.1 (Nat.le_of_ble_eq_true rfl) (am_ok_int _) rfl ?_
    have Rd45 := rd_len (v := nI (((((((((L + 1) + 1) + 1) + 1) + 1) + 1) + 1) + 1) + 1)) Rd43
    have O46 := ob_out (a := 40) (c := .inr (4, ([.ref 41, .int (nI ((((((((L + 1) + 1) + 1) + 1) + 1) + 1) + 1) + 1))] : List Value).set 1 (.int (nI (((((((((L + 1) + 1) + 1) + 1) + 1) + 1) + 1) + 1) + 1))))) (by omega) O44
    refine aw_iinc (npc := 45) (v := 16) (L' := [some (.ref 40), some (.int c), some (.int 16)]) dX4_addBytesOf_42 rfl rfl (by decide) (by decide) rfl rfl ?_
    refine aw_goto (npc := 3) dX4_addBytesOf_45 (by decide) ?_
    refine aw_iload_n (npc := 4) rfl dX4_addBytesOf_3 rfl ?_
    refine aw_if_lt (npc := 7) (tgt := 48) dX4_addBytesOf_4 rfl (by decide) (fun hc => absurd hc (by decide)) (fun _ => ?_)
    refine aw_aload_n (npc := 8) rfl dX4_addBytesOf_7 rfl ?_
    refine aw_get (npc := 11) dX4_addBytesOf_8 rfl kf_X4_15 Rd45.2.1 rfl ?_
    refine aw_bipush (npc := 13) (v := 96) (by decide) dX4_addBytesOf_11 rfl ?_
    refine aw_icmp_ge (npc := 16) (tgt := 48) dX4_addBytesOf_13 rfl (by decide) (fun hc => absurd hc (nI_ge (a := (((((((((L + 1) + 1) + 1) + 1) + 1) + 1) + 1) + 1) + 1)) (b := 96) (by omega) (by omega))) (fun _ => ?_)
    refine aw_aload_n (npc := 17) rfl dX4_addBytesOf_16 rfl ?_
    refine aw_get (npc := 20) dX4_addBytesOf_17 rfl kf_X4_9 Rd45.2.1 rfl ?_
    refine aw_aload_n (npc := 21) rfl dX4_addBytesOf_20 rfl ?_
    refine aw_get (npc := 24) dX4_addBytesOf_21 rfl kf_X4_15 Rd45.2.1 rfl ?_
    refine aw_iload_n (npc := 25) rfl dX4_addBytesOf_24 rfl ?_
    refine aw_iload_n (npc := 26) rfl dX4_addBytesOf_25 rfl ?_
    refine aw_iushrV (npc := 27) (v := ush c 16) dX4_addBytesOf_26 rfl (rfl) ?_
    refine aw_sipush (npc := 30) (v := 255) (by decide) dX4_addBytesOf_27 rfl ?_
    refine aw_iandV (npc := 31) (v := byt c 16) dX4_addBytesOf_30 rfl (rfl) ?_
    refine aw_iast (npc := 32) (j := (((((((((L + 1) + 1) + 1) + 1) + 1) + 1) + 1) + 1) + 1)) dX4_addBytesOf_31 rfl Rd45.2.2.1 (am_ix_nI (by omega)) (by rw [tl_len]; omega) rfl ?_
    have Rd48 := rd_byte (j := (((((((((L + 1) + 1) + 1) + 1) + 1) + 1) + 1) + 1) + 1)) (v := byt c 16) Rd45
    have O49 := ob_out (a := 41) (c := .inl (0, (tl 96 (upd (upd (upd (upd (upd (upd (upd (upd (upd tp L (byt a 24)) (L + 1) (byt a 16)) ((L + 1) + 1) (byt a 8)) (((L + 1) + 1) + 1) (byt a 0)) ((((L + 1) + 1) + 1) + 1) (byt b 24)) (((((L + 1) + 1) + 1) + 1) + 1) (byt b 16)) ((((((L + 1) + 1) + 1) + 1) + 1) + 1) (byt b 8)) (((((((L + 1) + 1) + 1) + 1) + 1) + 1) + 1) (byt b 0)) ((((((((L + 1) + 1) + 1) + 1) + 1) + 1) + 1) + 1) (byt c 24))).set (((((((((L + 1) + 1) + 1) + 1) + 1) + 1) + 1) + 1) + 1) (byt c 16))) (by omega) O46
    refine aw_aload_n (npc := 33) rfl dX4_addBytesOf_32 rfl ?_
    refine aw_dup (npc := 34) rfl dX4_addBytesOf_33 rfl ?_
    refine aw_get (npc := 37) dX4_addBytesOf_34 rfl kf_X4_15 Rd48.2.1 rfl ?_
    refine aw_iconst (npc := 38) (v := 1) (by decide) dX4_addBytesOf_37 rfl ?_
    refine aw_iaddV (npc := 39) (v := nI ((((((((((L + 1) + 1) + 1) + 1) + 1) + 1) + 1) + 1) + 1) + 1)) dX4_addBytesOf_38 rfl (nI_add _ 1) ?_
    refine aw_put (npc := 42) dX4_addBytesOf_39 rfl kf_X4_15 Rd48.2.1 (Nat.le_of_ble_eq_true rfl) (am_ok_int _) rfl ?_
    have Rd50 := rd_len (v := nI ((((((((((L + 1) + 1) + 1) + 1) + 1) + 1) + 1) + 1) + 1) + 1)) Rd48
    have O51 := ob_out (a := 40) (c := .inr (4, ([.ref 41, .int (nI (((((((((L + 1) + 1) + 1) + 1) + 1) + 1) + 1) + 1) + 1))] : List Value).set 1 (.int (nI ((((((((((L + 1) + 1) + 1) + 1) + 1) + 1) + 1) + 1) + 1) + 1))))) (by omega) O49
    refine aw_iinc (npc := 45) (v := 8) (L' := [some (.ref 40), some (.int c), some (.int 8)]) dX4_addBytesOf_42 rfl rfl (by decide) (by decide) rfl rfl ?_
    refine aw_goto (npc := 3) dX4_addBytesOf_45 (by decide) ?_
    refine aw_iload_n (npc := 4) rfl dX4_addBytesOf_3 rfl ?_
    refine aw_if_lt (npc := 7) (tgt := 48) dX4_addBytesOf_4 rfl (by decide) (fun hc => absurd hc (by decide)) (fun _ => ?_)
    refine aw_aload_n (npc := 8) rfl dX4_addBytesOf_7 rfl ?_
    refine aw_get (npc := 11) dX4_addBytesOf_8 rfl kf_X4_15 Rd50.2.1 rfl ?_
    refine aw_bipush (npc := 13) (v := 96) (by decide) dX4_addBytesOf_11 rfl ?_
    refine aw_icmp_ge (npc := 16) (tgt := 48) dX4_addBytesOf_13 rfl (by decide) (fun hc => absurd hc (nI_ge (a := ((((((((((L + 1) + 1) + 1) + 1) + 1) + 1) + 1) + 1) + 1) + 1)) (b := 96) (by omega) (by omega))) (fun _ => ?_)
    refine aw_aload_n (npc := 17) rfl dX4_addBytesOf_16 rfl ?_
    refine aw_get (npc := 20) dX4_addBytesOf_17 rfl kf_X4_9 Rd50.2.1 rfl ?_
    refine aw_aload_n (npc := 21) rfl dX4_addBytesOf_20 rfl ?_
    refine aw_get (npc := 24) dX4_addBytesOf_21 rfl kf_X4_15 Rd50.2.1 rfl ?_
    refine aw_iload_n (npc := 25) rfl dX4_addBytesOf_24 rfl ?_
    refine aw_iload_n (npc := 26) rfl dX4_addBytesOf_25 rfl ?_
    refine aw_iushrV (npc := 27) (v := ush c 8) dX4_addBytesOf_26 rfl (rfl) ?_
    refine aw_sipush (npc := 30) (v := 255) (by decide) dX4_addBytesOf_27 rfl ?_
    refine aw_iandV (npc := 31) (v := byt c 8) dX4_addBytesOf_30 rfl (rfl) ?_
    refine aw_iast (npc := 32) (j := ((((((((((L + 1) + 1) + 1) + 1) + 1) + 1) + 1) + 1) + 1) + 1)) dX4_addBytesOf_31 rfl Rd50.2.2.1 (am_ix_nI (by omega)) (by rw [tl_len]; omega) rfl ?_
    have Rd53 := rd_byte (j := ((((((((((L + 1) + 1) + 1) + 1) + 1) + 1) + 1) + 1) + 1) + 1)) (v := byt c 8) Rd50
    have O54 := ob_out (a := 41) (c := .inl (0, (tl 96 (upd (upd (upd (upd (upd (upd (upd (upd (upd (upd tp L (byt a 24)) (L + 1) (byt a 16)) ((L + 1) + 1) (byt a 8)) (((L + 1) + 1) + 1) (byt a 0)) ((((L + 1) + 1) + 1) + 1) (byt b 24)) (((((L + 1) + 1) + 1) + 1) + 1) (byt b 16)) ((((((L + 1) + 1) + 1) + 1) + 1) + 1) (byt b 8)) (((((((L + 1) + 1) + 1) + 1) + 1) + 1) + 1) (byt b 0)) ((((((((L + 1) + 1) + 1) + 1) + 1) + 1) + 1) + 1) (byt c 24)) (((((((((L + 1) + 1) + 1) + 1) + 1) + 1) + 1) + 1) + 1) (byt c 16))).set ((((((((((L + 1) + 1) + 1) + 1) + 1) + 1) + 1) + 1) + 1) + 1) (byt c 8))) (by omega) O51
    refine aw_aload_n (npc := 33) rfl dX4_addBytesOf_32 rfl ?_
    refine aw_dup (npc := 34) rfl dX4_addBytesOf_33 rfl ?_
    refine aw_get (npc := 37) dX4_addBytesOf_34 rfl kf_X4_15 Rd53.2.1 rfl ?_
    refine aw_iconst (npc := 38) (v := 1) (by decide) dX4_addBytesOf_37 rfl ?_
    refine aw_iaddV (npc := 39) (v := nI (((((((((((L + 1) + 1) + 1) + 1) + 1) + 1) + 1) + 1) + 1) + 1) + 1)) dX4_addBytesOf_38 rfl (nI_add _ 1) ?_
    refine aw_put (npc := 42) dX4_addBytesOf_39 rfl kf_X4_15 Rd53.2.1 (Nat.le_of_ble_eq_true rfl) (am_ok_int _) rfl ?_
    have Rd55 := rd_len (v := nI (((((((((((L + 1) + 1) + 1) + 1) + 1) + 1) + 1) + 1) + 1) + 1) + 1)) Rd53
    have O56 := ob_out (a := 40) (c := .inr (4, ([.ref 41, .int (nI ((((((((((L + 1) + 1) + 1) + 1) + 1) + 1) + 1) + 1) + 1) + 1))] : List Value).set 1 (.int (nI (((((((((((L + 1) + 1) + 1) + 1) + 1) + 1) + 1) + 1) + 1) + 1) + 1))))) (by omega) O54
    refine aw_iinc (npc := 45) (v := 0) (L' := [some (.ref 40), some (.int c), some (.int 0)]) dX4_addBytesOf_42 rfl rfl (by decide) (by decide) rfl rfl ?_
    refine aw_goto (npc := 3) dX4_addBytesOf_45 (by decide) ?_
    refine aw_iload_n (npc := 4) rfl dX4_addBytesOf_3 rfl ?_
    refine aw_if_lt (npc := 7) (tgt := 48) dX4_addBytesOf_4 rfl (by decide) (fun hc => absurd hc (by decide)) (fun _ => ?_)
    refine aw_aload_n (npc := 8) rfl dX4_addBytesOf_7 rfl ?_
    refine aw_get (npc := 11) dX4_addBytesOf_8 rfl kf_X4_15 Rd55.2.1 rfl ?_
    refine aw_bipush (npc := 13) (v := 96) (by decide) dX4_addBytesOf_11 rfl ?_
    refine aw_icmp_ge (npc := 16) (tgt := 48) dX4_addBytesOf_13 rfl (by decide) (fun hc => absurd hc (nI_ge (a := (((((((((((L + 1) + 1) + 1) + 1) + 1) + 1) + 1) + 1) + 1) + 1) + 1)) (b := 96) (by omega) (by omega))) (fun _ => ?_)
    refine aw_aload_n (npc := 17) rfl dX4_addBytesOf_16 rfl ?_
    refine aw_get (npc := 20) dX4_addBytesOf_17 rfl kf_X4_9 Rd55.2.1 rfl ?_
    refine aw_aload_n (npc := 21) rfl dX4_addBytesOf_20 rfl ?_
    refine aw_get (npc := 24) dX4_addBytesOf_21 rfl kf_X4_15 Rd55.2.1 rfl ?_
    refine aw_iload_n (npc := 25) rfl dX4_addBytesOf_24 rfl ?_
    refine aw_iload_n (npc := 26) rfl dX4_addBytesOf_25 rfl ?_
    refine aw_iushrV (npc := 27) (v := ush c 0) dX4_addBytesOf_26 rfl (rfl) ?_
    refine aw_sipush (npc := 30) (v := 255) (by decide) dX4_addBytesOf_27 rfl ?_
    refine aw_iandV (npc := 31) (v := byt c 0) dX4_addBytesOf_30 rfl (rfl) ?_
    refine aw_iast (npc := 32) (j := (((((((((((L + 1) + 1) + 1) + 1) + 1) + 1) + 1) + 1) + 1) + 1) + 1)) dX4_addBytesOf_31 rfl Rd55.2.2.1 (am_ix_nI (by omega)) (by rw [tl_len]; omega) rfl ?_
    have Rd58 := rd_byte (j := (((((((((((L + 1) + 1) + 1) + 1) + 1) + 1) + 1) + 1) + 1) + 1) + 1)) (v := byt c 0) Rd55
    have O59 := ob_out (a := 41) (c := .inl (0, (tl 96 (upd (upd (upd (upd (upd (upd (upd (upd (upd (upd (upd tp L (byt a 24)) (L + 1) (byt a 16)) ((L + 1) + 1) (byt a 8)) (((L + 1) + 1) + 1) (byt a 0)) ((((L + 1) + 1) + 1) + 1) (byt b 24)) (((((L + 1) + 1) + 1) + 1) + 1) (byt b 16)) ((((((L + 1) + 1) + 1) + 1) + 1) + 1) (byt b 8)) (((((((L + 1) + 1) + 1) + 1) + 1) + 1) + 1) (byt b 0)) ((((((((L + 1) + 1) + 1) + 1) + 1) + 1) + 1) + 1) (byt c 24)) (((((((((L + 1) + 1) + 1) + 1) + 1) + 1) + 1) + 1) + 1) (byt c 16)) ((((((((((L + 1) + 1) + 1) + 1) + 1) + 1) + 1) + 1) + 1) + 1) (byt c 8))).set (((((((((((L + 1) + 1) + 1) + 1) + 1) + 1) + 1) + 1) + 1) + 1) + 1) (byt c 0))) (by omega) O56
    refine aw_aload_n (npc := 33) rfl dX4_addBytesOf_32 rfl ?_
    refine aw_dup (npc := 34) rfl dX4_addBytesOf_33 rfl ?_
    refine aw_get (npc := 37) dX4_addBytesOf_34 rfl kf_X4_15 Rd58.2.1 rfl ?_
    refine aw_iconst (npc := 38) (v := 1) (by decide) dX4_addBytesOf_37 rfl ?_
    refine aw_iaddV (npc := 39) (v := nI ((((((((((((L + 1) + 1) + 1) + 1) + 1) + 1) + 1) + 1) + 1) + 1) + 1) + 1)) dX4_addBytesOf_38 rfl (nI_add _ 1) ?_
    refine aw_put (npc := 42) dX4_addBytesOf_39 rfl kf_X4_15 Rd58.2.1 (Nat.le_of_ble_eq_true rfl) (am_ok_int _) rfl ?_
    have Rd60 := rd_len (v := nI ((((((((((((L + 1) + 1) + 1) + 1) + 1) + 1) + 1) + 1) + 1) + 1) + 1) + 1)) Rd58
    have O61 := ob_out (a := 40) (c := .inr (4, ([.ref 41, .int (nI (((((((((((L + 1) + 1) + 1) + 1) + 1) + 1) + 1) + 1) + 1) + 1) + 1))] : List Value).set 1 (.int (nI ((((((((((((L + 1) + 1) + 1) + 1) + 1) + 1) + 1) + 1) + 1) + 1) + 1) + 1))))) (by omega) O59
    refine aw_iinc (npc := 45) (v := (-8)) (L' := [some (.ref 40), some (.int c), some (.int (-8))]) dX4_addBytesOf_42 rfl rfl (by decide) (by decide) rfl rfl ?_
    refine aw_goto (npc := 3) dX4_addBytesOf_45 (by decide) ?_
    refine aw_iload_n (npc := 4) rfl dX4_addBytesOf_3 rfl ?_
    refine aw_if_lt (npc := 7) (tgt := 48) dX4_addBytesOf_4 rfl (by decide) (fun _ => ?_) (fun hc => absurd (by decide) hc)
    refine aw_vret rfl dX4_addBytesOf_48 ?_
    refine aw_aload_n (npc := 43) rfl dX7_feed_42 rfl ?_
    refine aw_get (npc := 46) dX7_feed_43 rfl kf_X7_44 O61.1 rfl ?_
    refine aw_get (npc := 49) dX7_feed_46 rfl kf_X7_234 Rd60.2.1 rfl ?_
    refine aw_iret rfl dX7_feed_49 ?_
    exact k0 (by omega) _ Rd60 (am_fpU (show ¬ (40 < 40 ∨ 42 ≤ 40) by omega) (am_fpU (show ¬ (41 < 40 ∨ 42 ≤ 41) by omega) (am_fpU (show ¬ (40 < 40 ∨ 42 ≤ 40) by omega) (am_fpU (show ¬ (41 < 40 ∨ 42 ≤ 41) by omega) (am_fpU (show ¬ (40 < 40 ∨ 42 ≤ 40) by omega) (am_fpU (show ¬ (41 < 40 ∨ 42 ≤ 41) by omega) (am_fpU (show ¬ (40 < 40 ∨ 42 ≤ 40) by omega) (am_fpU (show ¬ (41 < 40 ∨ 42 ≤ 41) by omega) (am_fpU (show ¬ (40 < 40 ∨ 42 ≤ 40) by omega) (am_fpU (show ¬ (41 < 40 ∨ 42 ≤ 41) by omega) (am_fpU (show ¬ (40 < 40 ∨ 42 ≤ 40) by omega) (am_fpU (show ¬ (41 < 40 ∨ 42 ≤ 41) by omega) (am_fpU (show ¬ (40 < 40 ∨ 42 ≤ 40) by omega) (am_fpU (show ¬ (41 < 40 ∨ 42 ≤ 41) by omega) (am_fpU (show ¬ (40 < 40 ∨ 42 ≤ 40) by omega) (am_fpU (show ¬ (41 < 40 ∨ 42 ≤ 41) by omega) (am_fpU (show ¬ (40 < 40 ∨ 42 ≤ 40) by omega) (am_fpU (show ¬ (41 < 40 ∨ 42 ≤ 41) by omega) (am_fpU (show ¬ (40 < 40 ∨ 42 ≤ 40) by omega) (am_fpU (show ¬ (41 < 40 ∨ 42 ≤ 41) by omega) (am_fpU (show ¬ (40 < 40 ∨ 42 ≤ 40) by omega) (am_fpU (show ¬ (41 < 40 ∨ 42 ≤ 41) by omega) (am_fpU (show ¬ (40 < 40 ∨ 42 ≤ 40) by omega) (am_fpU (show ¬ (41 < 40 ∨ 42 ≤ 41) by omega) am_fp0))))))))))))))))))))))))
  · have hc1N : ¬ (L + 12) ≤ 96 := fun z9q => hc1 ((nI_leI (a := (L + 12)) (b := 96) (by omega) (by omega)).mpr z9q)
    refine aw_ldc (npc := 17) kc_X7_82 dX7_feed_15 rfl ?_
    refine aw_iret rfl dX7_feed_17 ?_
    exact k1 (by omega)
set_option maxHeartbeats 4000000 in
set_option maxRecDepth 100000 in
theorem M_feed {X : List Int32} {d rc rs n : Nat} {Q : am_Q} {h : am_H} {o N : Nat → Int32} {a : Nat → Nat → Int32} {b : Int32} {c : Int32} {e : Int32} {L : Nat} (F : MR o N a h) (hL : o 9 = nI L) (hL96 : L ≤ 96) (k1 : 96 < L + 12 → Q (some (.int (-1000000003))) n h) (k0 : L + 12 ≤ 96 → ∀ a9 h9, a9 75 = fd12 (a 75) L b c e → (∀ c, c ≠ 75 → a9 c = a c) → MR (upd o 9 (nI (L + 12))) N a9 h9 → am_fp (fun k => k < 69 ∨ 92 ≤ k) h9 h → Q (some (.int (nI (L + 12)))) n h9) : AW X mX8_feed (d + 12) rc rs 0 [some (.ref 69), some (.int b), some (.int c), some (.int e), none, none] [] n h Q := by
  refine aw_aload_n (npc := 1) rfl dX8_feed_0 rfl ?_
  refine aw_get (npc := 4) dX8_feed_1 rfl kf_X8_192 F.1 rfl ?_
  refine aw_top (y := nI L) (hL) ?_
  refine aw_bipush (npc := 6) (v := 12) (by decide) dX8_feed_4 rfl ?_
  refine aw_iaddV (npc := 7) (v := nI (L + 12)) dX8_feed_6 rfl (nI_add _ 12) ?_
  refine aw_bipush (npc := 9) (v := 96) (by decide) dX8_feed_7 rfl ?_
  refine aw_icmp_le (npc := 12) (tgt := 15) dX8_feed_9 rfl (by decide) (fun hc1 => ?_) (fun hc1 => ?_)
  · have hc1N := (nI_leI (a := (L + 12)) (b := 96) (by omega) (by omega)).mp hc1
    refine aw_iconst (npc := 16) (v := 0) (by decide) dX8_feed_15 rfl ?_
    refine aw_istore (npc := 18) (L' := [some (.ref 69), some (.int b), some (.int c), some (.int e), some (.int 0), none]) dX8_feed_16 rfl (by decide) rfl rfl ?_
    refine aw_iload (npc := 20) rfl dX8_feed_18 rfl ?_
    refine aw_bipush (npc := 22) (v := 12) (by decide) dX8_feed_20 rfl ?_
    refine aw_icmp_ge (npc := 25) (tgt := 84) dX8_feed_22 rfl (by decide) (fun hc => absurd hc (by decide)) (fun _ => ?_)
    refine aw_iload (npc := 27) rfl dX8_feed_25 rfl ?_
    refine aw_iconst (npc := 28) (v := 4) (by decide) dX8_feed_27 rfl ?_
    refine aw_icmp_ge (npc := 31) (tgt := 35) dX8_feed_28 rfl (by decide) (fun hc => absurd hc (by decide)) (fun _ => ?_)
    refine aw_iload_n (npc := 32) rfl dX8_feed_31 rfl ?_
    refine aw_goto (npc := 47) dX8_feed_32 (by decide) ?_
    refine aw_istore (npc := 49) (L' := [some (.ref 69), some (.int b), some (.int c), some (.int e), some (.int 0), some (.int b)]) dX8_feed_47 rfl (by decide) rfl rfl ?_
    refine aw_aload_n (npc := 50) rfl dX8_feed_49 rfl ?_
    refine aw_get (npc := 53) dX8_feed_50 rfl kf_X8_29 F.1 rfl ?_
    refine aw_aload_n (npc := 54) rfl dX8_feed_53 rfl ?_
    refine aw_get (npc := 57) dX8_feed_54 rfl kf_X8_192 F.1 rfl ?_
    refine aw_top (y := nI L) (hL) ?_
    refine aw_iload (npc := 59) rfl dX8_feed_57 rfl ?_
    refine aw_iaddV (npc := 60) (v := nI (L + 0)) dX8_feed_59 rfl (nI_add _ 0) ?_
    refine aw_iload (npc := 62) rfl dX8_feed_60 rfl ?_
    refine aw_bipush (npc := 64) (v := 24) (by decide) dX8_feed_62 rfl ?_
    refine aw_bipush (npc := 66) (v := 8) (by decide) dX8_feed_64 rfl ?_
    refine aw_iload (npc := 68) rfl dX8_feed_66 rfl ?_
    refine aw_iconst (npc := 69) (v := 4) (by decide) dX8_feed_68 rfl ?_
    refine aw_iremV (npc := 70) (v := 0) (by decide) dX8_feed_69 rfl (by decide) ?_
    refine aw_imulV (npc := 71) (v := 0) dX8_feed_70 rfl (by decide) ?_
    refine aw_isubV (npc := 72) (v := 24) dX8_feed_71 rfl (by decide) ?_
    refine aw_ishrV (npc := 73) (v := sar b 24) dX8_feed_72 rfl (rfl) ?_
    refine aw_sipush (npc := 76) (v := 255) (by decide) dX8_feed_73 rfl ?_
    refine aw_iandV (npc := 77) (v := byt b 24) dX8_feed_76 rfl (byt_24 b) ?_
    refine aw_iast (npc := 78) (j := (L + 0)) dX8_feed_77 rfl F.2.2.2.2.2.2.1 (am_ix_nI (by omega)) (by rw [tl_len]; omega) rfl ?_
    have F2 := mr_75 (j := (L + 0)) (v := byt b 24) F
    refine aw_iinc (npc := 81) (v := 1) (L' := [some (.ref 69), some (.int b), some (.int c), some (.int e), some (.int 1), some (.int b)]) dX8_feed_78 rfl rfl (by decide) (by decide) rfl rfl ?_
    refine aw_goto (npc := 18) dX8_feed_81 (by decide) ?_
    refine aw_iload (npc := 20) rfl dX8_feed_18 rfl ?_
    refine aw_bipush (npc := 22) (v := 12) (by decide) dX8_feed_20 rfl ?_
    refine aw_icmp_ge (npc := 25) (tgt := 84) dX8_feed_22 rfl (by decide) (fun hc => absurd hc (by decide)) (fun _ => ?_)
    refine aw_iload (npc := 27) rfl dX8_feed_25 rfl ?_
    refine aw_iconst (npc := 28) (v := 4) (by decide) dX8_feed_27 rfl ?_
    refine aw_icmp_ge (npc := 31) (tgt := 35) dX8_feed_28 rfl (by decide) (fun hc => absurd hc (by decide)) (fun _ => ?_)
    refine aw_iload_n (npc := 32) rfl dX8_feed_31 rfl ?_
    refine aw_goto (npc := 47) dX8_feed_32 (by decide) ?_
    refine aw_istore (npc := 49) (L' := [some (.ref 69), some (.int b), some (.int c), some (.int e), some (.int 1), some (.int b)]) dX8_feed_47 rfl (by decide) rfl rfl ?_
    refine aw_aload_n (npc := 50) rfl dX8_feed_49 rfl ?_
    refine aw_get (npc := 53) dX8_feed_50 rfl kf_X8_29 F2.1 rfl ?_
    refine aw_aload_n (npc := 54) rfl dX8_feed_53 rfl ?_
    refine aw_get (npc := 57) dX8_feed_54 rfl kf_X8_192 F2.1 rfl ?_
    refine aw_top (y := nI L) (hL) ?_
    refine aw_iload (npc := 59) rfl dX8_feed_57 rfl ?_
    refine aw_iaddV (npc := 60) (v := nI (L + 1)) dX8_feed_59 rfl (nI_add _ 1) ?_
    refine aw_iload (npc := 62) rfl dX8_feed_60 rfl ?_
    refine aw_bipush (npc := 64) (v := 24) (by decide) dX8_feed_62 rfl ?_
    refine aw_bipush (npc := 66) (v := 8) (by decide) dX8_feed_64 rfl ?_
    refine aw_iload (npc := 68) rfl dX8_feed_66 rfl ?_
    refine aw_iconst (npc := 69) (v := 4) (by decide) dX8_feed_68 rfl ?_
    refine aw_iremV (npc := 70) (v := 1) (by decide) dX8_feed_69 rfl (by decide) ?_
    refine aw_imulV (npc := 71) (v := 8) dX8_feed_70 rfl (by decide) ?_
    refine aw_isubV (npc := 72) (v := 16) dX8_feed_71 rfl (by decide) ?_
    refine aw_ishrV (npc := 73) (v := sar b 16) dX8_feed_72 rfl (rfl) ?_
    refine aw_sipush (npc := 76) (v := 255) (by decide) dX8_feed_73 rfl ?_
    refine aw_iandV (npc := 77) (v := byt b 16) dX8_feed_76 rfl (byt_16 b) ?_
    refine aw_iast (npc := 78) (j := (L + 1)) dX8_feed_77 rfl F2.2.2.2.2.2.2.1 (am_ix_nI (by omega)) (by rw [tl_len]; omega) rfl ?_
    have F3 := mr_75 (j := (L + 1)) (v := byt b 16) F2
    refine aw_iinc (npc := 81) (v := 2) (L' := [some (.ref 69), some (.int b), some (.int c), some (.int e), some (.int 2), some (.int b)]) dX8_feed_78 rfl rfl (by decide) (by decide) rfl rfl ?_
    refine aw_goto (npc := 18) dX8_feed_81 (by decide) ?_
    refine aw_iload (npc := 20) rfl dX8_feed_18 rfl ?_
    refine aw_bipush (npc := 22) (v := 12) (by decide) dX8_feed_20 rfl ?_
    refine aw_icmp_ge (npc := 25) (tgt := 84) dX8_feed_22 rfl (by decide) (fun hc => absurd hc (by decide)) (fun _ => ?_)
    refine aw_iload (npc := 27) rfl dX8_feed_25 rfl ?_
    refine aw_iconst (npc := 28) (v := 4) (by decide) dX8_feed_27 rfl ?_
    refine aw_icmp_ge (npc := 31) (tgt := 35) dX8_feed_28 rfl (by decide) (fun hc => absurd hc (by decide)) (fun _ => ?_)
    refine aw_iload_n (npc := 32) rfl dX8_feed_31 rfl ?_
    refine aw_goto (npc := 47) dX8_feed_32 (by decide) ?_
    refine aw_istore (npc := 49) (L' := [some (.ref 69), some (.int b), some (.int c), some (.int e), some (.int 2), some (.int b)]) dX8_feed_47 rfl (by decide) rfl rfl ?_
    refine aw_aload_n (npc := 50) rfl dX8_feed_49 rfl ?_
    refine aw_get (npc := 53) dX8_feed_50 rfl kf_X8_29 F3.1 rfl ?_
    refine aw_aload_n (npc := 54) rfl dX8_feed_53 rfl ?_
    refine aw_get (npc := 57) dX8_feed_54 rfl kf_X8_192 F3.1 rfl ?_
    refine aw_top (y := nI L) (hL) ?_
    refine aw_iload (npc := 59) rfl dX8_feed_57 rfl ?_
    refine aw_iaddV (npc := 60) (v := nI (L + 2)) dX8_feed_59 rfl (nI_add _ 2) ?_
    refine aw_iload (npc := 62) rfl dX8_feed_60 rfl ?_
    refine aw_bipush (npc := 64) (v := 24) (by decide) dX8_feed_62 rfl ?_
    refine aw_bipush (npc := 66) (v := 8) (by decide) dX8_feed_64 rfl ?_
    refine aw_iload (npc := 68) rfl dX8_feed_66 rfl ?_
    refine aw_iconst (npc := 69) (v := 4) (by decide) dX8_feed_68 rfl ?_
    refine aw_iremV (npc := 70) (v := 2) (by decide) dX8_feed_69 rfl (by decide) ?_
    refine aw_imulV (npc := 71) (v := 16) dX8_feed_70 rfl (by decide) ?_
    refine aw_isubV (npc := 72) (v := 8) dX8_feed_71 rfl (by decide) ?_
    refine aw_ishrV (npc := 73) (v := sar b 8) dX8_feed_72 rfl (rfl) ?_
    refine aw_sipush (npc := 76) (v := 255) (by decide) dX8_feed_73 rfl ?_
    refine aw_iandV (npc := 77) (v := byt b 8) dX8_feed_76 rfl (byt_8 b) ?_
    refine aw_iast (npc := 78) (j := (L + 2)) dX8_feed_77 rfl F3.2.2.2.2.2.2.1 (am_ix_nI (by omega)) (by rw [tl_len]; omega) rfl ?_
    have F4 := mr_75 (j := (L + 2)) (v := byt b 8) F3
    refine aw_iinc (npc := 81) (v := 3) (L' := [some (.ref 69), some (.int b), some (.int c), some (.int e), some (.int 3), some (.int b)]) dX8_feed_78 rfl rfl (by decide) (by decide) rfl rfl ?_
    refine aw_goto (npc := 18) dX8_feed_81 (by decide) ?_
    refine aw_iload (npc := 20) rfl dX8_feed_18 rfl ?_
    refine aw_bipush (npc := 22) (v := 12) (by decide) dX8_feed_20 rfl ?_
    refine aw_icmp_ge (npc := 25) (tgt := 84) dX8_feed_22 rfl (by decide) (fun hc => absurd hc (by decide)) (fun _ => ?_)
    refine aw_iload (npc := 27) rfl dX8_feed_25 rfl ?_
    refine aw_iconst (npc := 28) (v := 4) (by decide) dX8_feed_27 rfl ?_
    refine aw_icmp_ge (npc := 31) (tgt := 35) dX8_feed_28 rfl (by decide) (fun hc => absurd hc (by decide)) (fun _ => ?_)
    refine aw_iload_n (npc := 32) rfl dX8_feed_31 rfl ?_
    refine aw_goto (npc := 47) dX8_feed_32 (by decide) ?_
    refine aw_istore (npc := 49) (L' := [some (.ref 69), some (.int b), some (.int c), some (.int e), some (.int 3), some (.int b)]) dX8_feed_47 rfl (by decide) rfl rfl ?_
    refine aw_aload_n (npc := 50) rfl dX8_feed_49 rfl ?_
    refine aw_get (npc := 53) dX8_feed_50 rfl kf_X8_29 F4.1 rfl ?_
    refine aw_aload_n (npc := 54) rfl dX8_feed_53 rfl ?_
    refine aw_get (npc := 57) dX8_feed_54 rfl kf_X8_192 F4.1 rfl ?_
    refine aw_top (y := nI L) (hL) ?_
    refine aw_iload (npc := 59) rfl dX8_feed_57 rfl ?_
    refine aw_iaddV (npc := 60) (v := nI (L + 3)) dX8_feed_59 rfl (nI_add _ 3) ?_
    refine aw_iload (npc := 62) rfl dX8_feed_60 rfl ?_
    refine aw_bipush (npc := 64) (v := 24) (by decide) dX8_feed_62 rfl ?_
    refine aw_bipush (npc := 66) (v := 8) (by decide) dX8_feed_64 rfl ?_
    refine aw_iload (npc := 68) rfl dX8_feed_66 rfl ?_
    refine aw_iconst (npc := 69) (v := 4) (by decide) dX8_feed_68 rfl ?_
    refine aw_iremV (npc := 70) (v := 3) (by decide) dX8_feed_69 rfl (by decide) ?_
    refine aw_imulV (npc := 71) (v := 24) dX8_feed_70 rfl (by decide) ?_
    refine aw_isubV (npc := 72) (v := 0) dX8_feed_71 rfl (by decide) ?_
    refine aw_ishrV (npc := 73) (v := sar b 0) dX8_feed_72 rfl (rfl) ?_
    refine aw_sipush (npc := 76) (v := 255) (by decide) dX8_feed_73 rfl ?_
    refine aw_iandV (npc := 77) (v := byt b 0) dX8_feed_76 rfl (byt_0 b) ?_
    refine aw_iast (npc := 78) (j := (L + 3)) dX8_feed_77 rfl F4.2.2.2.2.2.2.1 (am_ix_nI (by omega)) (by rw [tl_len]; omega) rfl ?_
    have F5 := mr_75 (j := (L + 3)) (v := byt b 0) F4
    refine aw_iinc (npc := 81) (v := 4) (L' := [some (.ref 69), some (.int b), some (.int c), some (.int e), some (.int 4), some (.int b)]) dX8_feed_78 rfl rfl (by decide) (by decide) rfl rfl ?_
    refine aw_goto (npc := 18) dX8_feed_81 (by decide) ?_
    refine aw_iload (npc := 20) rfl dX8_feed_18 rfl ?_
    refine aw_bipush (npc := 22) (v := 12) (by decide) dX8_feed_20 rfl ?_
    refine aw_icmp_ge (npc := 25) (tgt := 84) dX8_feed_22 rfl (by decide) (fun hc => absurd hc (by decide)) (fun _ => ?_)
    refine aw_iload (npc := 27) rfl dX8_feed_25 rfl ?_
    refine aw_iconst (npc := 28) (v := 4) (by decide) dX8_feed_27 rfl ?_
    refine aw_icmp_ge (npc := 31) (tgt := 35) dX8_feed_28 rfl (by decide) (fun _ => ?_) (fun hc => absurd (by decide) hc)
    refine aw_iload (npc := 37) rfl dX8_feed_35 rfl ?_
    refine aw_bipush (npc := 39) (v := 8) (by decide) dX8_feed_37 rfl ?_
    refine aw_icmp_ge (npc := 42) (tgt := 46) dX8_feed_39 rfl (by decide) (fun hc => absurd hc (by decide)) (fun _ => ?_)
    refine aw_iload_n (npc := 43) rfl dX8_feed_42 rfl ?_
    refine aw_goto (npc := 47) dX8_feed_43 (by decide) ?_
    refine aw_istore (npc := 49) (L' := [some (.ref 69), some (.int b), some (.int c), some (.int e), some (.int 4), some (.int c)]) dX8_feed_47 rfl (by decide) rfl rfl ?_
    refine aw_aload_n (npc := 50) rfl dX8_feed_49 rfl ?_
    refine aw_get (npc := 53) dX8_feed_50 rfl kf_X8_29 F5.1 rfl ?_
    refine aw_aload_n (npc := 54) rfl dX8_feed_53 rfl ?_
    refine aw_get (npc := 57) dX8_feed_54 rfl kf_X8_192 F5.1 rfl ?_
    refine aw_top (y := nI L) (hL) ?_
    refine aw_iload (npc := 59) rfl dX8_feed_57 rfl ?_
    refine aw_iaddV (npc := 60) (v := nI (L + 4)) dX8_feed_59 rfl (nI_add _ 4) ?_
    refine aw_iload (npc := 62) rfl dX8_feed_60 rfl ?_
    refine aw_bipush (npc := 64) (v := 24) (by decide) dX8_feed_62 rfl ?_
    refine aw_bipush (npc := 66) (v := 8) (by decide) dX8_feed_64 rfl ?_
    refine aw_iload (npc := 68) rfl dX8_feed_66 rfl ?_
    refine aw_iconst (npc := 69) (v := 4) (by decide) dX8_feed_68 rfl ?_
    refine aw_iremV (npc := 70) (v := 0) (by decide) dX8_feed_69 rfl (by decide) ?_
    refine aw_imulV (npc := 71) (v := 0) dX8_feed_70 rfl (by decide) ?_
    refine aw_isubV (npc := 72) (v := 24) dX8_feed_71 rfl (by decide) ?_
    refine aw_ishrV (npc := 73) (v := sar c 24) dX8_feed_72 rfl (rfl) ?_
    refine aw_sipush (npc := 76) (v := 255) (by decide) dX8_feed_73 rfl ?_
    refine aw_iandV (npc := 77) (v := byt c 24) dX8_feed_76 rfl (byt_24 c) ?_
    refine aw_iast (npc := 78) (j := (L + 4)) dX8_feed_77 rfl F5.2.2.2.2.2.2.1 (am_ix_nI (by omega)) (by rw [tl_len]; omega) rfl ?_
    have F6 := mr_75 (j := (L + 4)) (v := byt c 24) F5
    refine aw_iinc (npc := 81) (v := 5) (L' := [some (.ref 69), some (.int b), some (.int c), some (.int e), some (.int 5), some (.int c)]) dX8_feed_78 rfl rfl (by decide) (by decide) rfl rfl ?_
    refine aw_goto (npc := 18) dX8_feed_81 (by decide) ?_
    refine aw_iload (npc := 20) rfl dX8_feed_18 rfl ?_
    refine aw_bipush (npc := 22) (v := 12) (by decide) dX8_feed_20 rfl ?_
    refine aw_icmp_ge (npc := 25) (tgt := 84) dX8_feed_22 rfl (by decide) (fun hc => absurd hc (by decide)) (fun _ => ?_)
    refine aw_iload (npc := 27) rfl dX8_feed_25 rfl ?_
    refine aw_iconst (npc := 28) (v := 4) (by decide) dX8_feed_27 rfl ?_
    refine aw_icmp_ge (npc := 31) (tgt := 35) dX8_feed_28 rfl (by decide) (fun _ => ?_) (fun hc => absurd (by decide) hc)
    refine aw_iload (npc := 37) rfl dX8_feed_35 rfl ?_
    refine aw_bipush (npc := 39) (v := 8) (by decide) dX8_feed_37 rfl ?_
    refine aw_icmp_ge (npc := 42) (tgt := 46) dX8_feed_39 rfl (by decide) (fun hc => absurd hc (by decide)) (fun _ => ?_)
    refine aw_iload_n (npc := 43) rfl dX8_feed_42 rfl ?_
    refine aw_goto (npc := 47) dX8_feed_43 (by decide) ?_
    refine aw_istore (npc := 49) (L' := [some (.ref 69), some (.int b), some (.int c), some (.int e), some (.int 5), some (.int c)]) dX8_feed_47 rfl (by decide) rfl rfl ?_
    refine aw_aload_n (npc := 50) rfl dX8_feed_49 rfl ?_
    refine aw_get (npc := 53) dX8_feed_50 rfl kf_X8_29 F6.1 rfl ?_
    refine aw_aload_n (npc := 54) rfl dX8_feed_53 rfl ?_
    refine aw_get (npc := 57) dX8_feed_54 rfl kf_X8_192 F6.1 rfl ?_
    refine aw_top (y := nI L) (hL) ?_
    refine aw_iload (npc := 59) rfl dX8_feed_57 rfl ?_
    refine aw_iaddV (npc := 60) (v := nI (L + 5)) dX8_feed_59 rfl (nI_add _ 5) ?_
    refine aw_iload (npc := 62) rfl dX8_feed_60 rfl ?_
    refine aw_bipush (npc := 64) (v := 24) (by decide) dX8_feed_62 rfl ?_
    refine aw_bipush (npc := 66) (v := 8) (by decide) dX8_feed_64 rfl ?_
    refine aw_iload (npc := 68) rfl dX8_feed_66 rfl ?_
    refine aw_iconst (npc := 69) (v := 4) (by decide) dX8_feed_68 rfl ?_
    refine aw_iremV (npc := 70) (v := 1) (by decide) dX8_feed_69 rfl (by decide) ?_
    refine aw_imulV (npc := 71) (v := 8) dX8_feed_70 rfl (by decide) ?_
    refine aw_isubV (npc := 72) (v := 16) dX8_feed_71 rfl (by decide) ?_
    refine aw_ishrV (npc := 73) (v := sar c 16) dX8_feed_72 rfl (rfl) ?_
    refine aw_sipush (npc := 76) (v := 255) (by decide) dX8_feed_73 rfl ?_
    refine aw_iandV (npc := 77) (v := byt c 16) dX8_feed_76 rfl (byt_16 c) ?_
    refine aw_iast (npc := 78) (j := (L + 5)) dX8_feed_77 rfl F6.2.2.2.2.2.2.1 (am_ix_nI (by omega)) (by rw [tl_len]; omega) rfl ?_
    have F7 := mr_75 (j := (L + 5)) (v := byt c 16) F6
    refine aw_iinc (npc := 81) (v := 6) (L' := [some (.ref 69), some (.int b), some (.int c), some (.int e), some (.int 6), some (.int c)]) dX8_feed_78 rfl rfl (by decide) (by decide) rfl rfl ?_
    refine aw_goto (npc := 18) dX8_feed_81 (by decide) ?_
    refine aw_iload (npc := 20) rfl dX8_feed_18 rfl ?_
    refine aw_bipush (npc := 22) (v := 12) (by decide) dX8_feed_20 rfl ?_
    refine aw_icmp_ge (npc := 25) (tgt := 84) dX8_feed_22 rfl (by decide) (fun hc => absurd hc (by decide)) (fun _ => ?_)
    refine aw_iload (npc := 27) rfl dX8_feed_25 rfl ?_
    refine aw_iconst (npc := 28) (v := 4) (by decide) dX8_feed_27 rfl ?_
    refine aw_icmp_ge (npc := 31) (tgt := 35) dX8_feed_28 rfl (by decide) (fun _ => ?_) (fun hc => absurd (by decide) hc)
    refine aw_iload (npc := 37) rfl dX8_feed_35 rfl ?_
    refine aw_bipush (npc := 39) (v := 8) (by decide) dX8_feed_37 rfl ?_
    refine aw_icmp_ge (npc := 42) (tgt := 46) dX8_feed_39 rfl (by decide) (fun hc => absurd hc (by decide)) (fun _ => ?_)
    refine aw_iload_n (npc := 43) rfl dX8_feed_42 rfl ?_
    refine aw_goto (npc := 47) dX8_feed_43 (by decide) ?_
    refine aw_istore (npc := 49) (L' := [some (.ref 69), some (.int b), some (.int c), some (.int e), some (.int 6), some (.int c)]) dX8_feed_47 rfl (by decide) rfl rfl ?_
    refine aw_aload_n (npc := 50) rfl dX8_feed_49 rfl ?_
    refine aw_get (npc := 53) dX8_feed_50 rfl kf_X8_29 F7.1 rfl ?_
    refine aw_aload_n (npc := 54) rfl dX8_feed_53 rfl ?_
    refine aw_get (npc := 57) dX8_feed_54 rfl kf_X8_192 F7.1 rfl ?_
    refine aw_top (y := nI L) (hL) ?_
    refine aw_iload (npc := 59) rfl dX8_feed_57 rfl ?_
    refine aw_iaddV (npc := 60) (v := nI (L + 6)) dX8_feed_59 rfl (nI_add _ 6) ?_
    refine aw_iload (npc := 62) rfl dX8_feed_60 rfl ?_
    refine aw_bipush (npc := 64) (v := 24) (by decide) dX8_feed_62 rfl ?_
    refine aw_bipush (npc := 66) (v := 8) (by decide) dX8_feed_64 rfl ?_
    refine aw_iload (npc := 68) rfl dX8_feed_66 rfl ?_
    refine aw_iconst (npc := 69) (v := 4) (by decide) dX8_feed_68 rfl ?_
    refine aw_iremV (npc := 70) (v := 2) (by decide) dX8_feed_69 rfl (by decide) ?_
    refine aw_imulV (npc := 71) (v := 16) dX8_feed_70 rfl (by decide) ?_
    refine aw_isubV (npc := 72) (v := 8) dX8_feed_71 rfl (by decide) ?_
    refine aw_ishrV (npc := 73) (v := sar c 8) dX8_feed_72 rfl (rfl) ?_
    refine aw_sipush (npc := 76) (v := 255) (by decide) dX8_feed_73 rfl ?_
    refine aw_iandV (npc := 77) (v := byt c 8) dX8_feed_76 rfl (byt_8 c) ?_
    refine aw_iast (npc := 78) (j := (L + 6)) dX8_feed_77 rfl F7.2.2.2.2.2.2.1 (am_ix_nI (by omega)) (by rw [tl_len]; omega) rfl ?_
    have F8 := mr_75 (j := (L + 6)) (v := byt c 8) F7
    refine aw_iinc (npc := 81) (v := 7) (L' := [some (.ref 69), some (.int b), some (.int c), some (.int e), some (.int 7), some (.int c)]) dX8_feed_78 rfl rfl (by decide) (by decide) rfl rfl ?_
    refine aw_goto (npc := 18) dX8_feed_81 (by decide) ?_
    refine aw_iload (npc := 20) rfl dX8_feed_18 rfl ?_
    refine aw_bipush (npc := 22) (v := 12) (by decide) dX8_feed_20 rfl ?_
    refine aw_icmp_ge (npc := 25) (tgt := 84) dX8_feed_22 rfl (by decide) (fun hc => absurd hc (by decide)) (fun _ => ?_)
    refine aw_iload (npc := 27) rfl dX8_feed_25 rfl ?_
    refine aw_iconst (npc := 28) (v := 4) (by decide) dX8_feed_27 rfl ?_
    refine aw_icmp_ge (npc := 31) (tgt := 35) dX8_feed_28 rfl (by decide) (fun _ => ?_) (fun hc => absurd (by decide) hc)
    refine aw_iload (npc := 37) rfl dX8_feed_35 rfl ?_
    refine aw_bipush (npc := 39) (v := 8) (by decide) dX8_feed_37 rfl ?_
    refine aw_icmp_ge (npc := 42) (tgt := 46) dX8_feed_39 rfl (by decide) (fun hc => absurd hc (by decide)) (fun _ => ?_)
    refine aw_iload_n (npc := 43) rfl dX8_feed_42 rfl ?_
    refine aw_goto (npc := 47) dX8_feed_43 (by decide) ?_
    refine aw_istore (npc := 49) (L' := [some (.ref 69), some (.int b), some (.int c), some (.int e), some (.int 7), some (.int c)]) dX8_feed_47 rfl (by decide) rfl rfl ?_
    refine aw_aload_n (npc := 50) rfl dX8_feed_49 rfl ?_
    refine aw_get (npc := 53) dX8_feed_50 rfl kf_X8_29 F8.1 rfl ?_
    refine aw_aload_n (npc := 54) rfl dX8_feed_53 rfl ?_
    refine aw_get (npc := 57) dX8_feed_54 rfl kf_X8_192 F8.1 rfl ?_
    refine aw_top (y := nI L) (hL) ?_
    refine aw_iload (npc := 59) rfl dX8_feed_57 rfl ?_
    refine aw_iaddV (npc := 60) (v := nI (L + 7)) dX8_feed_59 rfl (nI_add _ 7) ?_
    refine aw_iload (npc := 62) rfl dX8_feed_60 rfl ?_
    refine aw_bipush (npc := 64) (v := 24) (by decide) dX8_feed_62 rfl ?_
    refine aw_bipush (npc := 66) (v := 8) (by decide) dX8_feed_64 rfl ?_
    refine aw_iload (npc := 68) rfl dX8_feed_66 rfl ?_
    refine aw_iconst (npc := 69) (v := 4) (by decide) dX8_feed_68 rfl ?_
    refine aw_iremV (npc := 70) (v := 3) (by decide) dX8_feed_69 rfl (by decide) ?_
    refine aw_imulV (npc := 71) (v := 24) dX8_feed_70 rfl (by decide) ?_
    refine aw_isubV (npc := 72) (v := 0) dX8_feed_71 rfl (by decide) ?_
    refine aw_ishrV (npc := 73) (v := sar c 0) dX8_feed_72 rfl (rfl) ?_
    refine aw_sipush (npc := 76) (v := 255) (by decide) dX8_feed_73 rfl ?_
    refine aw_iandV (npc := 77) (v := byt c 0) dX8_feed_76 rfl (byt_0 c) ?_
    refine aw_iast (npc := 78) (j := (L + 7)) dX8_feed_77 rfl F8.2.2.2.2.2.2.1 (am_ix_nI (by omega)) (by rw [tl_len]; omega) rfl ?_
    have F9 := mr_75 (j := (L + 7)) (v := byt c 0) F8
    refine aw_iinc (npc := 81) (v := 8) (L' := [some (.ref 69), some (.int b), some (.int c), some (.int e), some (.int 8), some (.int c)]) dX8_feed_78 rfl rfl (by decide) (by decide) rfl rfl ?_
    refine aw_goto (npc := 18) dX8_feed_81 (by decide) ?_
    refine aw_iload (npc := 20) rfl dX8_feed_18 rfl ?_
    refine aw_bipush (npc := 22) (v := 12) (by decide) dX8_feed_20 rfl ?_
    refine aw_icmp_ge (npc := 25) (tgt := 84) dX8_feed_22 rfl (by decide) (fun hc => absurd hc (by decide)) (fun _ => ?_)
    refine aw_iload (npc := 27) rfl dX8_feed_25 rfl ?_
    refine aw_iconst (npc := 28) (v := 4) (by decide) dX8_feed_27 rfl ?_
    refine aw_icmp_ge (npc := 31) (tgt := 35) dX8_feed_28 rfl (by decide) (fun _ => ?_) (fun hc => absurd (by decide) hc)
    refine aw_iload (npc := 37) rfl dX8_feed_35 rfl ?_
    refine aw_bipush (npc := 39) (v := 8) (by decide) dX8_feed_37 rfl ?_
    refine aw_icmp_ge (npc := 42) (tgt := 46) dX8_feed_39 rfl (by decide) (fun _ => ?_) (fun hc => absurd (by decide) hc)
    refine aw_iload_n (npc := 47) rfl dX8_feed_46 rfl ?_
    refine aw_istore (npc := 49) (L' := [some (.ref 69), some (.int b), some (.int c), some (.int e), some (.int 8), some (.int e)]) dX8_feed_47 rfl (by decide) rfl rfl ?_
    refine aw_aload_n (npc := 50) rfl dX8_feed_49 rfl ?_
    refine aw_get (npc := 53) dX8_feed_50 rfl kf_X8_29 F9.1 rfl ?_
    refine aw_aload_n (npc := 54) rfl dX8_feed_53 rfl ?_
    refine aw_get (npc := 57) dX8_feed_54 rfl kf_X8_192 F9.1 rfl ?_
    refine aw_top (y := nI L) (hL) ?_
    refine aw_iload (npc := 59) rfl dX8_feed_57 rfl ?_
    refine aw_iaddV (npc := 60) (v := nI (L + 8)) dX8_feed_59 rfl (nI_add _ 8) ?_
    refine aw_iload (npc := 62) rfl dX8_feed_60 rfl ?_
    refine aw_bipush (npc := 64) (v := 24) (by decide) dX8_feed_62 rfl ?_
    refine aw_bipush (npc := 66) (v := 8) (by decide) dX8_feed_64 rfl ?_
    refine aw_iload (npc := 68) rfl dX8_feed_66 rfl ?_
    refine aw_iconst (npc := 69) (v := 4) (by decide) dX8_feed_68 rfl ?_
    refine aw_iremV (npc := 70) (v := 0) (by decide) dX8_feed_69 rfl (by decide) ?_
    refine aw_imulV (npc := 71) (v := 0) dX8_feed_70 rfl (by decide) ?_
    refine aw_isubV (npc := 72) (v := 24) dX8_feed_71 rfl (by decide) ?_
    refine aw_ishrV (npc := 73) (v := sar e 24) dX8_feed_72 rfl (rfl) ?_
    refine aw_sipush (npc := 76) (v := 255) (by decide) dX8_feed_73 rfl ?_
    refine aw_iandV (npc := 77) (v := byt e 24) dX8_feed_76 rfl (byt_24 e) ?_
    refine aw_iast (npc := 78) (j := (L + 8)) dX8_feed_77 rfl F9.2.2.2.2.2.2.1 (am_ix_nI (by omega)) (by rw [tl_len]; omega) rfl ?_
    have F10 := mr_75 (j := (L + 8)) (v := byt e 24) F9
    refine aw_iinc (npc := 81) (v := 9) (L' := [some (.ref 69), some (.int b), some (.int c), some (.int e), some (.int 9), some (.int e)]) dX8_feed_78 rfl rfl (by decide) (by decide) rfl rfl ?_
    refine aw_goto (npc := 18) dX8_feed_81 (by decide) ?_
    refine aw_iload (npc := 20) rfl dX8_feed_18 rfl ?_
    refine aw_bipush (npc := 22) (v := 12) (by decide) dX8_feed_20 rfl ?_
    refine aw_icmp_ge (npc := 25) (tgt := 84) dX8_feed_22 rfl (by decide) (fun hc => absurd hc (by decide)) (fun _ => ?_)
    refine aw_iload (npc := 27) rfl dX8_feed_25 rfl ?_
    refine aw_iconst (npc := 28) (v := 4) (by decide) dX8_feed_27 rfl ?_
    refine aw_icmp_ge (npc := 31) (tgt := 35) dX8_feed_28 rfl (by decide) (fun _ => ?_) (fun hc => absurd (by decide) hc)
    refine aw_iload (npc := 37) rfl dX8_feed_35 rfl ?_
    refine aw_bipush (npc := 39) (v := 8) (by decide) dX8_feed_37 rfl ?_
    refine aw_icmp_ge (npc := 42) (tgt := 46) dX8_feed_39 rfl (by decide) (fun _ => ?_) (fun hc => absurd (by decide) hc)
    refine aw_iload_n (npc := 47) rfl dX8_feed_46 rfl ?_
    refine aw_istore (npc := 49) (L' := [some (.ref 69), some (.int b), some (.int c), some (.int e), some (.int 9), some (.int e)]) dX8_feed_47 rfl (by decide) rfl rfl ?_
    refine aw_aload_n (npc := 50) rfl dX8_feed_49 rfl ?_
    refine aw_get (npc := 53) dX8_feed_50 rfl kf_X8_29 F10.1 rfl ?_
    refine aw_aload_n (npc := 54) rfl dX8_feed_53 rfl ?_
    refine aw_get (npc := 57) dX8_feed_54 rfl kf_X8_192 F10.1 rfl ?_
    refine aw_top (y := nI L) (hL) ?_
    refine aw_iload (npc := 59) rfl dX8_feed_57 rfl ?_
    refine aw_iaddV (npc := 60) (v := nI (L + 9)) dX8_feed_59 rfl (nI_add _ 9) ?_
    refine aw_iload (npc := 62) rfl dX8_feed_60 rfl ?_
    refine aw_bipush (npc := 64) (v := 24) (by decide) dX8_feed_62 rfl ?_
    refine aw_bipush (npc := 66) (v := 8) (by decide) dX8_feed_64 rfl ?_
    refine aw_iload (npc := 68) rfl dX8_feed_66 rfl ?_
    refine aw_iconst (npc := 69) (v := 4) (by decide) dX8_feed_68 rfl ?_
    refine aw_iremV (npc := 70) (v := 1) (by decide) dX8_feed_69 rfl (by decide) ?_
    refine aw_imulV (npc := 71) (v := 8) dX8_feed_70 rfl (by decide) ?_
    refine aw_isubV (npc := 72) (v := 16) dX8_feed_71 rfl (by decide) ?_
    refine aw_ishrV (npc := 73) (v := sar e 16) dX8_feed_72 rfl (rfl) ?_
    refine aw_sipush (npc := 76) (v := 255) (by decide) dX8_feed_73 rfl ?_
    refine aw_iandV (npc := 77) (v := byt e 16) dX8_feed_76 rfl (byt_16 e) ?_
    refine aw_iast (npc := 78) (j := (L + 9)) dX8_feed_77 rfl F10.2.2.2.2.2.2.1 (am_ix_nI (by omega)) (by rw [tl_len]; omega) rfl ?_
    have F11 := mr_75 (j := (L + 9)) (v := byt e 16) F10
    refine aw_iinc (npc := 81) (v := 10) (L' := [some (.ref 69), some (.int b), some (.int c), some (.int e), some (.int 10), some (.int e)]) dX8_feed_78 rfl rfl (by decide) (by decide) rfl rfl ?_
    refine aw_goto (npc := 18) dX8_feed_81 (by decide) ?_
    refine aw_iload (npc := 20) rfl dX8_feed_18 rfl ?_
    refine aw_bipush (npc := 22) (v := 12) (by decide) dX8_feed_20 rfl ?_
    refine aw_icmp_ge (npc := 25) (tgt := 84) dX8_feed_22 rfl (by decide) (fun hc => absurd hc (by decide)) (fun _ => ?_)
    refine aw_iload (npc := 27) rfl dX8_feed_25 rfl ?_
    refine aw_iconst (npc := 28) (v := 4) (by decide) dX8_feed_27 rfl ?_
    refine aw_icmp_ge (npc := 31) (tgt := 35) dX8_feed_28 rfl (by decide) (fun _ => ?_) (fun hc => absurd (by decide) hc)
    refine aw_iload (npc := 37) rfl dX8_feed_35 rfl ?_
    refine aw_bipush (npc := 39) (v := 8) (by decide) dX8_feed_37 rfl ?_
    refine aw_icmp_ge (npc := 42) (tgt := 46) dX8_feed_39 rfl (by decide) (fun _ => ?_) (fun hc => absurd (by decide) hc)
    refine aw_iload_n (npc := 47) rfl dX8_feed_46 rfl ?_
    refine aw_istore (npc := 49) (L' := [some (.ref 69), some (.int b), some (.int c), some (.int e), some (.int 10), some (.int e)]) dX8_feed_47 rfl (by decide) rfl rfl ?_
    refine aw_aload_n (npc := 50) rfl dX8_feed_49 rfl ?_
    refine aw_get (npc := 53) dX8_feed_50 rfl kf_X8_29 F11.1 rfl ?_
    refine aw_aload_n (npc := 54) rfl dX8_feed_53 rfl ?_
    refine aw_get (npc := 57) dX8_feed_54 rfl kf_X8_192 F11.1 rfl ?_
    refine aw_top (y := nI L) (hL) ?_
    refine aw_iload (npc := 59) rfl dX8_feed_57 rfl ?_
    refine aw_iaddV (npc := 60) (v := nI (L + 10)) dX8_feed_59 rfl (nI_add _ 10) ?_
    refine aw_iload (npc := 62) rfl dX8_feed_60 rfl ?_
    refine aw_bipush (npc := 64) (v := 24) (by decide) dX8_feed_62 rfl ?_
    refine aw_bipush (npc := 66) (v := 8) (by decide) dX8_feed_64 rfl ?_
    refine aw_iload (npc := 68) rfl dX8_feed_66 rfl ?_
    refine aw_iconst (npc := 69) (v := 4) (by decide) dX8_feed_68 rfl ?_
    refine aw_iremV (npc := 70) (v := 2) (by decide) dX8_feed_69 rfl (by decide) ?_
    refine aw_imulV (npc := 71) (v := 16) dX8_feed_70 rfl (by decide) ?_
    refine aw_isubV (npc := 72) (v := 8) dX8_feed_71 rfl (by decide) ?_
    refine aw_ishrV (npc := 73) (v := sar e 8) dX8_feed_72 rfl (rfl) ?_
    refine aw_sipush (npc := 76) (v := 255) (by decide) dX8_feed_73 rfl ?_
    refine aw_iandV (npc := 77) (v := byt e 8) dX8_feed_76 rfl (byt_8 e) ?_
    refine aw_iast (npc := 78) (j := (L + 10)) dX8_feed_77 rfl F11.2.2.2.2.2.2.1 (am_ix_nI (by omega)) (by rw [tl_len]; omega) rfl ?_
    have F12 := mr_75 (j := (L + 10)) (v := byt e 8) F11
    refine aw_iinc (npc := 81) (v := 11) (L' := [some (.ref 69), some (.int b), some (.int c), some (.int e), some (.int 11), some (.int e)]) dX8_feed_78 rfl rfl (by decide) (by decide) rfl rfl ?_
    refine aw_goto (npc := 18) dX8_feed_81 (by decide) ?_
    refine aw_iload (npc := 20) rfl dX8_feed_18 rfl ?_
    refine aw_bipush (npc := 22) (v := 12) (by decide) dX8_feed_20 rfl ?_
    refine aw_icmp_ge (npc := 25) (tgt := 84) dX8_feed_22 rfl (by decide) (fun hc => absurd hc (by decide)) (fun _ => ?_)
    refine aw_iload (npc := 27) rfl dX8_feed_25 rfl ?_
    refine aw_iconst (npc := 28) (v := 4) (by decide) dX8_feed_27 rfl ?_
    refine aw_icmp_ge (npc := 31) (tgt := 35) dX8_feed_28 rfl (by decide) (fun _ => ?_) (fun hc => absurd (by decide) hc)
    refine aw_iload (npc := 37) rfl dX8_feed_35 rfl ?_
    refine aw_bipush (npc := 39) (v := 8) (by decide) dX8_feed_37 rfl ?_
    refine aw_icmp_ge (npc := 42) (tgt := 46) dX8_feed_39 rfl (by decide) (fun _ => ?_) (fun hc => absurd (by decide) hc)
    refine aw_iload_n (npc := 47) rfl dX8_feed_46 rfl ?_
    refine aw_istore (npc := 49) (L' := [some (.ref 69), some (.int b), some (.int c), some (.int e), some (.int 11), some (.int e)]) dX8_feed_47 rfl (by decide) rfl rfl ?_
    refine aw_aload_n (npc := 50) rfl dX8_feed_49 rfl ?_
    refine aw_get (npc := 53) dX8_feed_50 rfl kf_X8_29 F12.1 rfl ?_
    refine aw_aload_n (npc := 54) rfl dX8_feed_53 rfl ?_
    refine aw_get (npc := 57) dX8_feed_54 rfl kf_X8_192 F12.1 rfl ?_
    refine aw_top (y := nI L) (hL) ?_
    refine aw_iload (npc := 59) rfl dX8_feed_57 rfl ?_
    refine aw_iaddV (npc := 60) (v := nI (L + 11)) dX8_feed_59 rfl (nI_add _ 11) ?_
    refine aw_iload (npc := 62) rfl dX8_feed_60 rfl ?_
    refine aw_bipush (npc := 64) (v := 24) (by decide) dX8_feed_62 rfl ?_
    refine aw_bipush (npc := 66) (v := 8) (by decide) dX8_feed_64 rfl ?_
    refine aw_iload (npc := 68) rfl dX8_feed_66 rfl ?_
    refine aw_iconst (npc := 69) (v := 4) (by decide) dX8_feed_68 rfl ?_
    refine aw_iremV (npc := 70) (v := 3) (by decide) dX8_feed_69 rfl (by decide) ?_
    refine aw_imulV (npc := 71) (v := 24) dX8_feed_70 rfl (by decide) ?_
    refine aw_isubV (npc := 72) (v := 0) dX8_feed_71 rfl (by decide) ?_
    refine aw_ishrV (npc := 73) (v := sar e 0) dX8_feed_72 rfl (rfl) ?_
    refine aw_sipush (npc := 76) (v := 255) (by decide) dX8_feed_73 rfl ?_
    refine aw_iandV (npc := 77) (v := byt e 0) dX8_feed_76 rfl (byt_0 e) ?_
    refine aw_iast (npc := 78) (j := (L + 11)) dX8_feed_77 rfl F12.2.2.2.2.2.2.1 (am_ix_nI (by omega)) (by rw [tl_len]; omega) rfl ?_
    have F13 := mr_75 (j := (L + 11)) (v := byt e 0) F12
    refine aw_iinc (npc := 81) (v := 12) (L' := [some (.ref 69), some (.int b), some (.int c), some (.int e), some (.int 12), some (.int e)]) dX8_feed_78 rfl rfl (by decide) (by decide) rfl rfl ?_
    refine aw_goto (npc := 18) dX8_feed_81 (by decide) ?_
    refine aw_iload (npc := 20) rfl dX8_feed_18 rfl ?_
    refine aw_bipush (npc := 22) (v := 12) (by decide) dX8_feed_20 rfl ?_
    refine aw_icmp_ge (npc := 25) (tgt := 84) dX8_feed_22 rfl (by decide) (fun _ => ?_) (fun hc => absurd (by decide) hc)
    refine aw_aload_n (npc := 85) rfl dX8_feed_84 rfl ?_
    refine aw_dup (npc := 86) rfl dX8_feed_85 rfl ?_
    refine aw_get (npc := 89) dX8_feed_86 rfl kf_X8_192 F13.1 rfl ?_
    refine aw_top (y := nI L) (hL) ?_
    refine aw_bipush (npc := 91) (v := 12) (by decide) dX8_feed_89 rfl ?_
    refine aw_iaddV (npc := 92) (v := nI (L + 12)) dX8_feed_91 rfl (nI_add _ 12) ?_
    refine aw_put (npc := 95) dX8_feed_92 rfl kf_X8_192 F13.1 (Nat.le_of_ble_eq_true rfl) (am_ok_int _) rfl ?_
    have F14 := mr_o9 (v := nI (L + 12)) F13
    refine aw_aload_n (npc := 96) rfl dX8_feed_95 rfl ?_
    refine aw_get (npc := 99) dX8_feed_96 rfl kf_X8_192 F14.1 rfl ?_
    refine aw_top (y := nI (L + 12)) (pk_us) ?_
    refine aw_iret rfl dX8_feed_99 ?_
    exact k0 (by omega) _ _ rfl (fun c hc => (aup_n hc).trans ((aup_n hc).trans ((aup_n hc).trans ((aup_n hc).trans ((aup_n hc).trans ((aup_n hc).trans ((aup_n hc).trans ((aup_n hc).trans ((aup_n hc).trans ((aup_n hc).trans ((aup_n hc).trans (aup_n hc)))))))))))) F14 (am_fpU (show ¬ (69 < 69 ∨ 92 ≤ 69) by omega) (am_fpU (show ¬ (75 < 69 ∨ 92 ≤ 75) by omega) (am_fpU (show ¬ (75 < 69 ∨ 92 ≤ 75) by omega) (am_fpU (show ¬ (75 < 69 ∨ 92 ≤ 75) by omega) (am_fpU (show ¬ (75 < 69 ∨ 92 ≤ 75) by omega) (am_fpU (show ¬ (75 < 69 ∨ 92 ≤ 75) by omega) (am_fpU (show ¬ (75 < 69 ∨ 92 ≤ 75) by omega) (am_fpU (show ¬ (75 < 69 ∨ 92 ≤ 75) by omega) (am_fpU (show ¬ (75 < 69 ∨ 92 ≤ 75) by omega) (am_fpU (show ¬ (75 < 69 ∨ 92 ≤ 75) by omega) (am_fpU (show ¬ (75 < 69 ∨ 92 ≤ 75) by omega) (am_fpU (show ¬ (75 < 69 ∨ 92 ≤ 75) by omega) (am_fpU (show ¬ (75 < 69 ∨ 92 ≤ 75) by omega) am_fp0)))))))))))))
  · have hc1N : ¬ (L + 12) ≤ 96 := fun z9q => hc1 ((nI_leI (a := (L + 12)) (b := 96) (by omega) (by omega)).mpr z9q)
    refine aw_ldc (npc := 14) kc_X8_92 dX8_feed_12 rfl ?_
    refine aw_iret rfl dX8_feed_14 ?_
    exact k1 (by omega)
def remK (x k : Int32) : Int32 := x - x / k * k
def dlS (N : Nat → Int32) (f : Nat) : Nat → Int32 := addN (drawN (drawN (drawN N))) f (remK (drawV N) 6) (remK (drawV (drawN N)) 2) (remK (drawV (drawN (drawN N))) 100)
def dlN : Nat → Nat → (Nat → Int32) → (Nat → Int32)
  | 0, _, N => N
  | m + 1, f, N => dlN m (f + 1) (dlS N f)
theorem dl1 {N : Nat → Int32} {f : Nat} {k s p : Int32} : addN N f k s p 1 = nI (f + 1) := pk_us
theorem dr1 {N : Nat → Int32} {k : Nat} (h : k ≠ 0) : drawN N k = N k := pk_un h
theorem min_nI {a b : Nat} (ha : a < 1000000) (hb : b < 1000000) : (if nI b < nI a then nI b else nI a) = nI (min a b) := by
  by_cases q : b < a
  · rw [if_pos ((nI_ltI (by omega) (by omega)).mpr q), show min a b = b by omega]
  · rw [if_neg (fun z => q ((nI_ltI (by omega) (by omega)).mp z)), show min a b = a by omega]
set_option maxHeartbeats 4000000 in
set_option maxRecDepth 100000 in
theorem C_dealL {X : List Int32} {d rc rs n : Nat} {Q : am_Q} {tx : List Value} {lk mv : Nat → Int32} {ik wc v1 : Int32} {K : Nat} (hK : K ≤ 8) : ∀ (m i f : Nat), i + m = K → f + m ≤ 8 → ∀ (N : Nat → Int32) (v4 v5 v6 : Option Value) (h : am_H), OB ik wc h → QR 1 N tx lk mv h → N 1 = nI f → (∀ w4 w5 w6 h9, QR 1 (dlN m f N) tx lk mv h9 → am_fp (fun k => k < 1 ∨ 13 ≤ k) h9 h → AW X mX7_deal (d + 12) rc rs 89 [some (.ref 0), some (.int v1), some (.int (nI K)), some (.int (nI K)), w4, w5, w6] [] n h9 Q) → AW X mX7_deal (d + 12) rc rs 30 [some (.ref 0), some (.int v1), some (.int (nI K)), some (.int (nI i)), v4, v5, v6] [] n h Q := by
  intro m
  induction m with
  | zero =>
    intro i f hi hf N v4 v5 v6 h O F hf1 hq
    obtain rfl : i = K := by omega
    refine aw_iload_n (npc := 31) rfl dX7_deal_30 rfl ?_
    refine aw_iload_n (npc := 32) rfl dX7_deal_31 rfl ?_
    exact aw_icmp_ge (npc := 35) (tgt := 89) dX7_deal_32 rfl (by decide) (fun _ => hq _ _ _ h F am_fp0) (fun hc => absurd (nI_le (Nat.le_refl _) (by omega)) hc)
  | succ m ih =>
    intro i f hi hf N v4 v5 v6 h O F hf1 hq
    refine aw_iload_n (npc := 31) rfl dX7_deal_30 rfl ?_
    refine aw_iload_n (npc := 32) rfl dX7_deal_31 rfl ?_
    refine aw_icmp_ge (npc := 35) (tgt := 89) dX7_deal_32 rfl (by decide) (fun hc => absurd hc (nI_ge (a := i) (b := K) (by omega) (by omega))) (fun _ => ?_)
    refine aw_aload_n (npc := 36) rfl dX7_deal_35 rfl ?_
    refine aw_get (npc := 39) dX7_deal_36 rfl kf_X7_10 O.1 rfl ?_
    refine aw_callV (npc := 42) (N := mX0_draw) (b := 1) (mc := 0) (ms := 0) (A := []) (S := []) (L0 := [some (.ref 1)]) dX7_deal_39 rfl km_X0_draw kk_X7_153 F.1 ⟨by decide, rfl⟩ rfl ⟨rfl, by decide⟩ rfl (Nat.le_of_ble_eq_true rfl) (Nat.zero_add _) (Nat.zero_add _) rfl ?_
    refine g_draw F (fun hp4 F2 fz3 => ?_)
    have O5 := ob_frame O (fz3 0 (by omega)) (fz3 43 (by omega)) (fz3 44 (by omega))
    refine aw_re (S' := [.int (drawV N)]) rfl ?_
    refine aw_bipush (npc := 44) (v := 6) (by decide) dX7_deal_42 rfl ?_
    refine aw_iremV (npc := 45) (v := remK (drawV N) 6) (by decide) dX7_deal_44 rfl (rfl) ?_
    refine aw_istore (npc := 47) (L' := [some (.ref 0), some (.int v1), some (.int (nI K)), some (.int (nI i)), some (.int (remK (drawV N) 6)), v5, v6]) dX7_deal_45 rfl (by decide) rfl rfl ?_
    refine aw_aload_n (npc := 48) rfl dX7_deal_47 rfl ?_
    refine aw_get (npc := 51) dX7_deal_48 rfl kf_X7_10 O5.1 rfl ?_
    refine aw_callV (npc := 54) (N := mX0_draw) (b := 1) (mc := 0) (ms := 0) (A := []) (S := []) (L0 := [some (.ref 1)]) dX7_deal_51 rfl km_X0_draw kk_X7_153 F2.1 ⟨by decide, rfl⟩ rfl ⟨rfl, by decide⟩ rfl (Nat.le_of_ble_eq_true rfl) (Nat.zero_add _) (Nat.zero_add _) rfl ?_
    refine g_draw F2 (fun hp8 F6 fz7 => ?_)
    have O9 := ob_frame O5 (fz7 0 (by omega)) (fz7 43 (by omega)) (fz7 44 (by omega))
    refine aw_re (S' := [.int (drawV (drawN N))]) rfl ?_
    refine aw_iconst (npc := 55) (v := 2) (by decide) dX7_deal_54 rfl ?_
    refine aw_iremV (npc := 56) (v := remK (drawV (drawN N)) 2) (by decide) dX7_deal_55 rfl (rfl) ?_
    refine aw_istore (npc := 58) (L' := [some (.ref 0), some (.int v1), some (.int (nI K)), some (.int (nI i)), some (.int (remK (drawV N) 6)), some (.int (remK (drawV (drawN N)) 2)), v6]) dX7_deal_56 rfl (by decide) rfl rfl ?_
    refine aw_aload_n (npc := 59) rfl dX7_deal_58 rfl ?_
    refine aw_get (npc := 62) dX7_deal_59 rfl kf_X7_10 O9.1 rfl ?_
    refine aw_callV (npc := 65) (N := mX0_draw) (b := 1) (mc := 0) (ms := 0) (A := []) (S := []) (L0 := [some (.ref 1)]) dX7_deal_62 rfl km_X0_draw kk_X7_153 F6.1 ⟨by decide, rfl⟩ rfl ⟨rfl, by decide⟩ rfl (Nat.le_of_ble_eq_true rfl) (Nat.zero_add _) (Nat.zero_add _) rfl ?_
    refine g_draw F6 (fun hp12 F10 fz11 => ?_)
    have O13 := ob_frame O9 (fz11 0 (by omega)) (fz11 43 (by omega)) (fz11 44 (by omega))
    refine aw_re (S' := [.int (drawV (drawN (drawN N)))]) rfl ?_
    refine aw_bipush (npc := 67) (v := 100) (by decide) dX7_deal_65 rfl ?_
    refine aw_iremV (npc := 68) (v := remK (drawV (drawN (drawN N))) 100) (by decide) dX7_deal_67 rfl (rfl) ?_
    refine aw_istore (npc := 70) (L' := [some (.ref 0), some (.int v1), some (.int (nI K)), some (.int (nI i)), some (.int (remK (drawV N) 6)), some (.int (remK (drawV (drawN N)) 2)), some (.int (remK (drawV (drawN (drawN N))) 100))]) dX7_deal_68 rfl (by decide) rfl rfl ?_
    refine aw_aload_n (npc := 71) rfl dX7_deal_70 rfl ?_
    refine aw_get (npc := 74) dX7_deal_71 rfl kf_X7_10 O13.1 rfl ?_
    refine aw_iload (npc := 76) rfl dX7_deal_74 rfl ?_
    refine aw_iload (npc := 78) rfl dX7_deal_76 rfl ?_
    refine aw_iload (npc := 80) rfl dX7_deal_78 rfl ?_
    refine aw_callV (npc := 83) (N := mX0_addFriend) (b := 1) (mc := 0) (ms := 0) (A := [.int (remK (drawV N) 6), .int (remK (drawV (drawN N)) 2), .int (remK (drawV (drawN (drawN N))) 100)]) (S := []) (L0 := [some (.ref 1), some (.int (remK (drawV N) 6)), some (.int (remK (drawV (drawN N)) 2)), some (.int (remK (drawV (drawN (drawN N))) 100))]) dX7_deal_80 rfl km_X0_addFriend kk_X7_83 F10.1 ⟨by decide, rfl⟩ rfl ⟨rfl, by decide⟩ rfl (Nat.le_of_ble_eq_true rfl) (Nat.zero_add _) (Nat.zero_add _) rfl ?_
    refine g_addFriend (f := f) F10 ((dr1 (by decide)).trans ((dr1 (by decide)).trans ((dr1 (by decide)).trans hf1))) (by omega) (fun hp16 F14 fz15 => ?_)
    have O17 := ob_frame O13 (fz15 0 (by omega)) (fz15 43 (by omega)) (fz15 44 (by omega))
    refine aw_iinc (npc := 86) (v := nI (i + 1)) (L' := [some (.ref 0), some (.int v1), some (.int (nI K)), some (.int (nI (i + 1))), some (.int (remK (drawV N) 6)), some (.int (remK (drawV (drawN N)) 2)), some (.int (remK (drawV (drawN (drawN N))) 100))]) dX7_deal_83 rfl rfl (nI_1 _) (by decide) rfl rfl ?_
    refine aw_goto (npc := 30) dX7_deal_86 (by decide) ?_
    exact ih (i + 1) (f + 1) (by omega) (by omega) _ _ _ _ _ O17 F14 dl1 (fun w4 w5 w6 h9 F9 fz => hq w4 w5 w6 h9 F9 (am_fpT fz (am_fpT (fun k (hk : k < 1 ∨ 13 ≤ k) => fz15 k (by omega)) (am_fpT (fun k (hk : k < 1 ∨ 13 ≤ k) => fz11 k (by omega)) (am_fpT (fun k (hk : k < 1 ∨ 13 ≤ k) => fz7 k (by omega)) (am_fpT (fun k (hk : k < 1 ∨ 13 ≤ k) => fz3 k (by omega)) am_fp0))))))
set_option maxHeartbeats 4000000 in
set_option maxRecDepth 100000 in
theorem C_deal {X : List Int32} {d rc rs n : Nat} {Q : am_Q} {h : am_H} {N : Nat → Int32} {tx : List Value} {lk mv : Nat → Int32} {ik wc : Int32} {fr c : Nat} {v : Int32} (O : OB ik wc h) (F : QR 1 N tx lk mv h) (hR : RG N fr c) (k1 : ¬ wi v 1 8 → Q (some (.int (-1000000001))) n h) (k0 : ∀ vn, wi v 1 8 → vn ≤ 8 → v = nI vn → ∀ h9, QR 1 (dlN (min vn (8 - fr)) fr N) tx lk mv h9 → am_fp (fun k => k < 1 ∨ 13 ≤ k) h9 h → Q (some (.int (nI (min vn (8 - fr))))) n h9) : AW X mX7_deal (d + 12) rc rs 0 [some (.ref 0), some (.int v), none, none, none, none, none] [] n h Q := by
  have h8r := hR.2.1
  have h14r := hR.2.2.2.1
  refine aw_iload_n (npc := 1) rfl dX7_deal_0 rfl ?_
  refine aw_iconst (npc := 2) (v := 1) (by decide) dX7_deal_1 rfl ?_
  refine aw_bipush (npc := 4) (v := 8) (by decide) dX7_deal_2 rfl ?_
  refine aw_callS (npc := 7) (N := mX7_within) (mc := 0) (ms := 0) (A := [.int v, .int 1, .int 8]) (S := []) (L0 := [some (.int v), some (.int 1), some (.int 8)]) dX7_deal_4 rfl km_X7_within kk_X7_74 rfl ⟨rfl, by decide⟩ rfl (Nat.le_of_ble_eq_true rfl) (Nat.zero_add _) (Nat.zero_add _) rfl ?_
  refine c_X7_within (fun hw1 => ?_) (fun hw1 => ?_)
  · obtain ⟨vn, hvn, evn⟩ := wi_nI (H := 8) (by decide) (by decide) hw1
    subst evn
    have fvn : fN (nI vn) = vn := fN_nI (by omega)
    refine aw_re (S' := [.int 1]) rfl ?_
    refine aw_if_ne (npc := 10) (tgt := 13) dX7_deal_7 rfl (by decide) (fun _ => ?_) (fun hc => absurd hc (by decide))
    refine aw_iload_n (npc := 14) rfl dX7_deal_13 rfl ?_
    refine aw_bipush (npc := 16) (v := 8) (by decide) dX7_deal_14 rfl ?_
    refine aw_aload_n (npc := 17) rfl dX7_deal_16 rfl ?_
    refine aw_get (npc := 20) dX7_deal_17 rfl kf_X7_10 O.1 rfl ?_
    refine aw_get (npc := 23) dX7_deal_20 rfl kf_X7_79 F.1 rfl ?_
    refine aw_top (y := nI fr) (hR.1) ?_
    refine aw_isubV (npc := 24) (v := nI (8 - fr)) dX7_deal_23 rfl (pk_sub (a := 8) (by omega)) ?_
    refine aw_mmin (npc := 27) dX7_deal_24 rfl kmm_X7_148 kmx_min (Nat.le_of_ble_eq_true rfl) ?_
    refine aw_top (y := nI (min vn (8 - fr))) (min_nI (by omega) (by omega)) ?_
    refine aw_istore_n (npc := 28) (L' := [some (.ref 0), some (.int (nI vn)), some (.int (nI (min vn (8 - fr)))), none, none, none, none]) dX7_deal_27 rfl (by decide) rfl rfl ?_
    refine aw_iconst (npc := 29) (v := 0) (by decide) dX7_deal_28 rfl ?_
    refine aw_istore_n (npc := 30) (L' := [some (.ref 0), some (.int (nI vn)), some (.int (nI (min vn (8 - fr)))), some (.int 0), none, none, none]) dX7_deal_29 rfl (by decide) rfl rfl ?_
    refine aw_locs (L' := [some (.ref 0), some (.int (nI vn)), some (.int (nI (min vn (8 - fr)))), some (.int (nI 0)), none, none, none]) rfl ?_
    refine C_dealL (by omega) (min vn (8 - fr)) 0 fr (by omega) (by omega) N none none none h O F hR.1 (fun w4 w5 w6 h9 F9 f9 => ?_)
    refine aw_iload_n (npc := 90) rfl dX7_deal_89 rfl ?_
    refine aw_iret rfl dX7_deal_90 ?_
    exact k0 vn hw1 hvn rfl _ F9 f9
  · refine aw_re (S' := [.int 0]) rfl ?_
    refine aw_if_ne (npc := 10) (tgt := 13) dX7_deal_7 rfl (by decide) (fun hc => absurd (by decide) hc) (fun _ => ?_)
    refine aw_ldc (npc := 12) kc_X7_78 dX7_deal_10 rfl ?_
    refine aw_iret rfl dX7_deal_12 ?_
    exact k1 hw1
set_option maxHeartbeats 4000000 in
set_option maxRecDepth 100000 in
theorem M_dealL {X : List Int32} {d rc rs n : Nat} {Q : am_Q} {o : Nat → Int32} {a : Nat → Nat → Int32} {K J : Nat} (hK : K ≤ 8) : ∀ (m i f : Nat), i + m = J → f + m ≤ 8 → (J = K ∨ (J < K ∧ f + m = 8)) → ∀ (N : Nat → Int32) (v3 v4 v5 : Option Value) (h : am_H), MR o N a h → N 1 = nI f → (∀ w3 w4 w5 h9, MR o (dlN m f N) a h9 → am_fp (fun k => k < 69 ∨ 92 ≤ k) h9 h → AW X mX8_deal (d + 12) rc rs 69 [some (.ref 69), some (.int (nI K)), some (.int (nI J)), w3, w4, w5] [] n h9 Q) → AW X mX8_deal (d + 12) rc rs 15 [some (.ref 69), some (.int (nI K)), some (.int (nI i)), v3, v4, v5] [] n h Q := by
  intro m
  induction m with
  | zero =>
    intro i f hi hf hJ N v3 v4 v5 h F hf1 hq
    obtain rfl : i = J := by omega
    refine aw_iload_n (npc := 16) rfl dX8_deal_15 rfl ?_
    refine aw_iload_n (npc := 17) rfl dX8_deal_16 rfl ?_
    refine aw_icmp_ge (npc := 20) (tgt := 69) dX8_deal_17 rfl (by decide) (fun hc1 => ?_) (fun hc1 => ?_)
    · have hc1N := (nI_leI (a := K) (b := i) (by omega) (by omega)).mp hc1
      exact hq _ _ _ h F am_fp0
    · have hc1N : ¬ K ≤ i := fun z9q => hc1 ((nI_leI (a := K) (b := i) (by omega) (by omega)).mpr z9q)
      refine aw_aload_n (npc := 21) rfl dX8_deal_20 rfl ?_
      refine aw_get (npc := 24) dX8_deal_21 rfl kf_X8_9 F.1 rfl ?_
      refine aw_iconst (npc := 25) (v := 1) (by decide) dX8_deal_24 rfl ?_
      refine aw_iald (npc := 26) (x := N 1) (j := 1) dX8_deal_25 rfl F.2.1 ⟨by decide, by decide⟩ (tl_at (by omega)) ?_
      refine aw_top (y := nI f) (hf1) ?_
      refine aw_bipush (npc := 28) (v := 8) (by decide) dX8_deal_26 rfl ?_
      refine aw_icmp_ge (npc := 31) (tgt := 69) dX8_deal_28 rfl (by decide) (fun _ => ?_) (fun hc => absurd (nI_le (a := 8) (b := f) (by omega) (by omega)) hc)
      exact hq _ _ _ h F am_fp0
  | succ m ih =>
    intro i f hi hf hJ N v3 v4 v5 h F hf1 hq
    refine aw_iload_n (npc := 16) rfl dX8_deal_15 rfl ?_
    refine aw_iload_n (npc := 17) rfl dX8_deal_16 rfl ?_
    refine aw_icmp_ge (npc := 20) (tgt := 69) dX8_deal_17 rfl (by decide) (fun hc => absurd hc (nI_ge (a := i) (b := K) (by omega) (by omega))) (fun _ => ?_)
    refine aw_aload_n (npc := 21) rfl dX8_deal_20 rfl ?_
    refine aw_get (npc := 24) dX8_deal_21 rfl kf_X8_9 F.1 rfl ?_
    refine aw_iconst (npc := 25) (v := 1) (by decide) dX8_deal_24 rfl ?_
    refine aw_iald (npc := 26) (x := N 1) (j := 1) dX8_deal_25 rfl F.2.1 ⟨by decide, by decide⟩ (tl_at (by omega)) ?_
    refine aw_top (y := nI f) (hf1) ?_
    refine aw_bipush (npc := 28) (v := 8) (by decide) dX8_deal_26 rfl ?_
    refine aw_icmp_ge (npc := 31) (tgt := 69) dX8_deal_28 rfl (by decide) (fun hc => absurd hc (nI_ge (a := f) (b := 8) (by omega) (by omega))) (fun _ => ?_)
    refine aw_aload_n (npc := 32) rfl dX8_deal_31 rfl ?_
    refine aw_callV (npc := 35) (N := mX8_draw) (b := 69) (mc := 0) (ms := 0) (A := []) (S := []) (L0 := [some (.ref 69)]) dX8_deal_32 rfl km_X8_draw kk_X8_139 F.1 ⟨by decide, rfl⟩ rfl ⟨rfl, by decide⟩ rfl (Nat.le_of_ble_eq_true rfl) (Nat.zero_add _) (Nat.zero_add _) rfl ?_
    refine m_draw F (fun hp5 F3 fz4 => ?_)
    refine aw_re (S' := [.int (drawV N)]) rfl ?_
    refine aw_bipush (npc := 37) (v := 6) (by decide) dX8_deal_35 rfl ?_
    refine aw_iremV (npc := 38) (v := remK (drawV N) 6) (by decide) dX8_deal_37 rfl (rfl) ?_
    refine aw_istore_n (npc := 39) (L' := [some (.ref 69), some (.int (nI K)), some (.int (nI i)), some (.int (remK (drawV N) 6)), v4, v5]) dX8_deal_38 rfl (by decide) rfl rfl ?_
    refine aw_aload_n (npc := 40) rfl dX8_deal_39 rfl ?_
    refine aw_callV (npc := 43) (N := mX8_draw) (b := 69) (mc := 0) (ms := 0) (A := []) (S := []) (L0 := [some (.ref 69)]) dX8_deal_40 rfl km_X8_draw kk_X8_139 F3.1 ⟨by decide, rfl⟩ rfl ⟨rfl, by decide⟩ rfl (Nat.le_of_ble_eq_true rfl) (Nat.zero_add _) (Nat.zero_add _) rfl ?_
    refine m_draw F3 (fun hp8 F6 fz7 => ?_)
    refine aw_re (S' := [.int (drawV (drawN N))]) rfl ?_
    refine aw_iconst (npc := 44) (v := 2) (by decide) dX8_deal_43 rfl ?_
    refine aw_iremV (npc := 45) (v := remK (drawV (drawN N)) 2) (by decide) dX8_deal_44 rfl (rfl) ?_
    refine aw_istore (npc := 47) (L' := [some (.ref 69), some (.int (nI K)), some (.int (nI i)), some (.int (remK (drawV N) 6)), some (.int (remK (drawV (drawN N)) 2)), v5]) dX8_deal_45 rfl (by decide) rfl rfl ?_
    refine aw_aload_n (npc := 48) rfl dX8_deal_47 rfl ?_
    refine aw_iload_n (npc := 49) rfl dX8_deal_48 rfl ?_
    refine aw_iload (npc := 51) rfl dX8_deal_49 rfl ?_
    refine aw_aload_n (npc := 52) rfl dX8_deal_51 rfl ?_
    refine aw_callV (npc := 55) (N := mX8_draw) (b := 69) (mc := 0) (ms := 0) (A := []) (S := [.int (remK (drawV (drawN N)) 2), .int (remK (drawV N) 6), .ref 69]) (L0 := [some (.ref 69)]) dX8_deal_52 rfl km_X8_draw kk_X8_139 F6.1 ⟨by decide, rfl⟩ rfl ⟨rfl, by decide⟩ rfl (Nat.le_of_ble_eq_true rfl) (Nat.zero_add _) (Nat.zero_add _) rfl ?_
    refine m_draw F6 (fun hp11 F9 fz10 => ?_)
    refine aw_re (S' := [.int (drawV (drawN (drawN N))), .int (remK (drawV (drawN N)) 2), .int (remK (drawV N) 6), .ref 69]) rfl ?_
    refine aw_bipush (npc := 57) (v := 100) (by decide) dX8_deal_55 rfl ?_
    refine aw_iremV (npc := 58) (v := remK (drawV (drawN (drawN N))) 100) (by decide) dX8_deal_57 rfl (rfl) ?_
    refine aw_callV (npc := 61) (N := mX8_comes) (b := 69) (mc := 0) (ms := 0) (A := [.int (remK (drawV N) 6), .int (remK (drawV (drawN N)) 2), .int (remK (drawV (drawN (drawN N))) 100)]) (S := []) (L0 := [some (.ref 69), some (.int (remK (drawV N) 6)), some (.int (remK (drawV (drawN N)) 2)), some (.int (remK (drawV (drawN (drawN N))) 100)), none]) dX8_deal_58 rfl km_X8_comes kk_X8_93 F9.1 ⟨by decide, rfl⟩ rfl ⟨rfl, by decide⟩ rfl (Nat.le_of_ble_eq_true rfl) (Nat.zero_add _) (Nat.zero_add _) rfl ?_
    refine m_comes (f := f) F9 ((dr1 (by decide)).trans ((dr1 (by decide)).trans ((dr1 (by decide)).trans hf1))) (by omega) (fun hp14 F12 fz13 => ?_)
    refine aw_re (S' := [.int (nI f)]) rfl ?_
    refine aw_istore (npc := 63) (L' := [some (.ref 69), some (.int (nI K)), some (.int (nI i)), some (.int (remK (drawV N) 6)), some (.int (remK (drawV (drawN N)) 2)), some (.int (nI f))]) dX8_deal_61 rfl (by decide) rfl rfl ?_
    refine aw_iinc (npc := 66) (v := nI (i + 1)) (L' := [some (.ref 69), some (.int (nI K)), some (.int (nI (i + 1))), some (.int (remK (drawV N) 6)), some (.int (remK (drawV (drawN N)) 2)), some (.int (nI f))]) dX8_deal_63 rfl rfl (nI_1 _) (by decide) rfl rfl ?_
    refine aw_goto (npc := 15) dX8_deal_66 (by decide) ?_
    exact ih (i + 1) (f + 1) (by omega) (by omega) (by omega) _ _ _ _ _ F12 dl1 (fun w3 w4 w5 h9 F9 fz => hq w3 w4 w5 h9 F9 (am_fpT fz (am_fpT (fun k (hk : k < 69 ∨ 92 ≤ k) => fz13 k (by omega)) (am_fpT (fun k (hk : k < 69 ∨ 92 ≤ k) => fz10 k (by omega)) (am_fpT (fun k (hk : k < 69 ∨ 92 ≤ k) => fz7 k (by omega)) (am_fpT (fun k (hk : k < 69 ∨ 92 ≤ k) => fz4 k (by omega)) am_fp0))))))
set_option maxHeartbeats 4000000 in
set_option maxRecDepth 100000 in
theorem M_deal {X : List Int32} {d rc rs n : Nat} {Q : am_Q} {h : am_H} {o N : Nat → Int32} {a : Nat → Nat → Int32} {fr c : Nat} {v : Int32} (F : MR o N a h) (hR : RG N fr c) (k1 : ¬ wi v 1 8 → Q (some (.int (-1000000001))) n h) (k0 : ∀ vn, wi v 1 8 → vn ≤ 8 → v = nI vn → ∀ h9, MR o (dlN (min vn (8 - fr)) fr N) a h9 → am_fp (fun k => k < 69 ∨ 92 ≤ k) h9 h → Q (some (.int (nI (min vn (8 - fr))))) n h9) : AW X mX8_deal (d + 12) rc rs 0 [some (.ref 69), some (.int v), none, none, none, none] [] n h Q := by
  have h8r := hR.2.1
  have h14r := hR.2.2.2.1
  refine aw_iload_n (npc := 1) rfl dX8_deal_0 rfl ?_
  refine aw_iconst (npc := 2) (v := 1) (by decide) dX8_deal_1 rfl ?_
  refine aw_bipush (npc := 4) (v := 8) (by decide) dX8_deal_2 rfl ?_
  refine aw_callS (npc := 7) (N := mX8_in) (mc := 0) (ms := 0) (A := [.int v, .int 1, .int 8]) (S := []) (L0 := [some (.int v), some (.int 1), some (.int 8)]) dX8_deal_4 rfl km_X8_in kk_X8_83 rfl ⟨rfl, by decide⟩ rfl (Nat.le_of_ble_eq_true rfl) (Nat.zero_add _) (Nat.zero_add _) rfl ?_
  refine c_X8_in (fun hw1 => ?_) (fun hw1 => ?_)
  · obtain ⟨vn, hvn, evn⟩ := wi_nI (H := 8) (by decide) (by decide) hw1
    subst evn
    have fvn : fN (nI vn) = vn := fN_nI (by omega)
    refine aw_re (S' := [.int 1]) rfl ?_
    refine aw_if_ne (npc := 10) (tgt := 13) dX8_deal_7 rfl (by decide) (fun _ => ?_) (fun hc => absurd hc (by decide))
    refine aw_iconst (npc := 14) (v := 0) (by decide) dX8_deal_13 rfl ?_
    refine aw_istore_n (npc := 15) (L' := [some (.ref 69), some (.int (nI vn)), some (.int 0), none, none, none]) dX8_deal_14 rfl (by decide) rfl rfl ?_
    refine aw_locs (L' := [some (.ref 69), some (.int (nI vn)), some (.int (nI 0)), none, none, none]) rfl ?_
    refine M_dealL (J := min vn (8 - fr)) (by omega) (min vn (8 - fr)) 0 fr (by omega) (by omega) (by omega) N none none none h F hR.1 (fun w3 w4 w5 h9 F9 f9 => ?_)
    refine aw_iload_n (npc := 70) rfl dX8_deal_69 rfl ?_
    refine aw_iret rfl dX8_deal_70 ?_
    exact k0 vn hw1 hvn rfl _ F9 f9
  · refine aw_re (S' := [.int 0]) rfl ?_
    refine aw_if_ne (npc := 10) (tgt := 13) dX8_deal_7 rfl (by decide) (fun hc => absurd (by decide) hc) (fun _ => ?_)
    refine aw_ldc (npc := 12) kc_X8_91 dX8_deal_10 rfl ?_
    refine aw_iret rfl dX8_deal_12 ?_
    exact k1 hw1
set_option maxHeartbeats 4000000 in
set_option maxRecDepth 100000 in
theorem C_posts {X : List Int32} {d rc rs n : Nat} {Q : am_Q} {h : am_H} {N : Nat → Int32} {tx : List Value} {lk mv : Nat → Int32} {ik wc : Int32} {fr c : Nat} {v : Int32} {tb : TB} (O : OB ik wc h) (F : QR 1 N tx lk mv h) (G : TT tb h) (hR : RG N fr c) (hv : TXv tb.1 c tx) (k1 : ¬ wi v 1 100 → Q (some (.int (-1000000001))) n h) (k0 : ∀ vn pp, wi v 1 100 → vn ≤ 100 → pp ≤ 9999 → v = nI vn → N 2 = nI pp → ∀ N9 s9 mv9 h9, runR fr tb tx lk (-1) (min vn (9999 - pp)) N 0 N9 s9 → QR 1 (upd N9 2 (N9 2 + nI (min vn (9999 - pp)))) tx lk mv9 h9 → TT tb h9 → am_fp (fun k => k < 92 ∧ (k < 1 ∨ 13 ≤ k)) h9 h → Q (some (.int s9)) n h9) : AW X mX7_posts (d + 30) rc rs 0 [some (.ref 0), some (.int v)] [] n h Q := by
  have h8r := hR.2.1
  have h14r := hR.2.2.2.1
  obtain ⟨pp, hpp, epp⟩ := wi_nI (H := 9999) (by decide) (by decide) hR.2.2.2.2.2.2.2.2.1
  refine aw_iload_n (npc := 1) rfl dX7_posts_0 rfl ?_
  refine aw_iconst (npc := 2) (v := 1) (by decide) dX7_posts_1 rfl ?_
  refine aw_bipush (npc := 4) (v := 100) (by decide) dX7_posts_2 rfl ?_
  refine aw_callS (npc := 7) (N := mX7_within) (mc := 0) (ms := 0) (A := [.int v, .int 1, .int 100]) (S := []) (L0 := [some (.int v), some (.int 1), some (.int 100)]) dX7_posts_4 rfl km_X7_within kk_X7_74 rfl ⟨rfl, by decide⟩ rfl (Nat.le_of_ble_eq_true rfl) (Nat.zero_add _) (Nat.zero_add _) rfl ?_
  refine c_X7_within (fun hw1 => ?_) (fun hw1 => ?_)
  · obtain ⟨vn, hvn, evn⟩ := wi_nI (H := 100) (by decide) (by decide) hw1
    subst evn
    have fvn : fN (nI vn) = vn := fN_nI (by omega)
    refine aw_re (S' := [.int 1]) rfl ?_
    refine aw_if_ne (npc := 10) (tgt := 13) dX7_posts_7 rfl (by decide) (fun _ => ?_) (fun hc => absurd hc (by decide))
    refine aw_aload_n (npc := 14) rfl dX7_posts_13 rfl ?_
    refine aw_get (npc := 17) dX7_posts_14 rfl kf_X7_10 O.1 rfl ?_
    refine aw_iload_n (npc := 18) rfl dX7_posts_17 rfl ?_
    refine aw_sipush (npc := 21) (v := 9999) (by decide) dX7_posts_18 rfl ?_
    refine aw_aload_n (npc := 22) rfl dX7_posts_21 rfl ?_
    refine aw_get (npc := 25) dX7_posts_22 rfl kf_X7_10 O.1 rfl ?_
    refine aw_get (npc := 28) dX7_posts_25 rfl kf_X7_160 F.1 rfl ?_
    refine aw_top (y := nI pp) (epp) ?_
    refine aw_isubV (npc := 29) (v := nI (9999 - pp)) dX7_posts_28 rfl (pk_sub (a := 9999) (by omega)) ?_
    refine aw_mmin (npc := 32) dX7_posts_29 rfl kmm_X7_148 kmx_min (Nat.le_of_ble_eq_true rfl) ?_
    refine aw_top (y := nI (min vn (9999 - pp))) (min_nI (by omega) (by omega)) ?_
    refine aw_iconst (npc := 33) (v := -1) (by decide) dX7_posts_32 rfl ?_
    refine aw_callV (npc := 36) (N := mX0_runPosts) (b := 1) (mc := 0) (ms := 0) (A := [.int (nI (min vn (9999 - pp))), .int (-1)]) (S := []) (L0 := [some (.ref 1), some (.int (nI (min vn (9999 - pp)))), some (.int (-1)), none, none]) dX7_posts_33 rfl km_X0_runPosts kk_X7_163 F.1 ⟨by decide, rfl⟩ rfl ⟨rfl, by decide⟩ rfl (Nat.le_of_ble_eq_true rfl) (Nat.zero_add _) (Nat.zero_add _) rfl ?_
    refine g_run (b := 1) (K := (min vn (9999 - pp))) (wo := (-1)) F G hR.1 h8r hR.2.2.1 hv (rg_wk hR) (by omega) (by omega) (fun N92 s93 m94 h95 hr6 F7 G8 fz9 => ?_)
    have fy10 : ∀ k, (k < 92 ∧ (k < 1 ∨ 1 + 12 ≤ k)) → h95 k = _ := fun k hk => fz9 k hk.1 hk.2
    have O11 := ob_frame O (fy10 0 (by omega)) (fy10 43 (by omega)) (fy10 44 (by omega))
    refine aw_re (S' := [.int s93]) rfl ?_
    refine aw_iret rfl dX7_posts_36 ?_
    exact k0 vn pp hw1 hvn hpp rfl epp _ _ _ _ hr6 F7 G8 (am_fpT (fun k (hk : k < 92 ∧ (k < 1 ∨ 13 ≤ k)) => fy10 k (by omega)) am_fp0)
  · refine aw_re (S' := [.int 0]) rfl ?_
    refine aw_if_ne (npc := 10) (tgt := 13) dX7_posts_7 rfl (by decide) (fun hc => absurd (by decide) hc) (fun _ => ?_)
    refine aw_ldc (npc := 12) kc_X7_78 dX7_posts_10 rfl ?_
    refine aw_iret rfl dX7_posts_12 ?_
    exact k1 hw1
theorem wn_min {a b : Nat} (ha : a < 1000000) (hb : b < 1000000) : wn (nI a) 0 (nI b) = nI (min b a) := by
  unfold wn
  rw [if_neg (nI_pos (by omega))]
  by_cases q : b < a
  · rw [if_pos ((nI_ltI (by omega) (by omega)).mpr q), show min b a = b by omega]
  · rw [if_neg (fun z => q ((nI_ltI (by omega) (by omega)).mp z)), show min b a = a by omega]
theorem mi_rg {N : Nat → Int32} {fr c : Nat} (hR : RG N fr c) (hT : TXM N c) : MI N c fr := ⟨hT, hR.1, hR.2.1, fun f hf => ⟨(hR.2.2.2.2.1 f (by have z := hR.2.1; omega)).1, (hR.2.2.2.2.1 f (by have z := hR.2.1; omega)).2.1⟩⟩
set_option maxHeartbeats 4000000 in
set_option maxRecDepth 100000 in
theorem M_posts {X : List Int32} {d rc rs n : Nat} {Q : am_Q} {h : am_H} {o N : Nat → Int32} {a : Nat → Nat → Int32} {fr c : Nat} {v : Int32} (F : MR o N a h) (hR : RG N fr c) (hT : TXM N c) (k1 : ¬ wi v 1 100 → Q (some (.int (-1000000001))) n h) (k0 : ∀ vn pp, wi v 1 100 → vn ≤ 100 → pp ≤ 9999 → v = nI vn → N 2 = nI pp → ∀ o9 N9 a9 h9, gOn c fr (o 4) (min vn (9999 - pp)) N N9 → MR o9 N9 a9 h9 → ol6 o9 o → al3 a9 a → am_fp (fun k => k < 69 ∨ 92 ≤ k) h9 h → Q (some (.int (sumM 26 N9 fr 0 0 - sumM 26 N fr 0 0))) n h9) : AW X mX8_posts (d + 30) rc rs 0 [some (.ref 69), some (.int v), none] [] n h Q := by
  have h8r := hR.2.1
  have h14r := hR.2.2.2.1
  obtain ⟨pp, hpp, epp⟩ := wi_nI (H := 9999) (by decide) (by decide) hR.2.2.2.2.2.2.2.2.1
  refine aw_iload_n (npc := 1) rfl dX8_posts_0 rfl ?_
  refine aw_iconst (npc := 2) (v := 1) (by decide) dX8_posts_1 rfl ?_
  refine aw_bipush (npc := 4) (v := 100) (by decide) dX8_posts_2 rfl ?_
  refine aw_callS (npc := 7) (N := mX8_in) (mc := 0) (ms := 0) (A := [.int v, .int 1, .int 100]) (S := []) (L0 := [some (.int v), some (.int 1), some (.int 100)]) dX8_posts_4 rfl km_X8_in kk_X8_83 rfl ⟨rfl, by decide⟩ rfl (Nat.le_of_ble_eq_true rfl) (Nat.zero_add _) (Nat.zero_add _) rfl ?_
  refine c_X8_in (fun hw1 => ?_) (fun hw1 => ?_)
  · obtain ⟨vn, hvn, evn⟩ := wi_nI (H := 100) (by decide) (by decide) hw1
    subst evn
    have fvn : fN (nI vn) = vn := fN_nI (by omega)
    refine aw_re (S' := [.int 1]) rfl ?_
    refine aw_if_ne (npc := 10) (tgt := 13) dX8_posts_7 rfl (by decide) (fun _ => ?_) (fun hc => absurd hc (by decide))
    refine aw_aload_n (npc := 14) rfl dX8_posts_13 rfl ?_
    refine aw_iconst (npc := 15) (v := 4) (by decide) dX8_posts_14 rfl ?_
    refine aw_callV (npc := 18) (N := mX8_sumOf) (b := 69) (mc := 0) (ms := 0) (A := [.int 4]) (S := []) (L0 := [some (.ref 69), some (.int 4), none, none]) dX8_posts_15 rfl km_X8_sumOf kk_X8_160 F.1 ⟨by decide, rfl⟩ rfl ⟨rfl, by decide⟩ rfl (Nat.le_of_ble_eq_true rfl) (Nat.zero_add _) (Nat.zero_add _) rfl ?_
    refine m_sumY F hR.1 h8r ?_
    refine aw_re (S' := [.int (sumM 26 N fr 0 0)]) rfl ?_
    refine aw_istore_n (npc := 19) (L' := [some (.ref 69), some (.int (nI vn)), some (.int (sumM 26 N fr 0 0))]) dX8_posts_18 rfl (by decide) rfl rfl ?_
    refine aw_aload_n (npc := 20) rfl dX8_posts_19 rfl ?_
    refine aw_sipush (npc := 23) (v := 9999) (by decide) dX8_posts_20 rfl ?_
    refine aw_aload_n (npc := 24) rfl dX8_posts_23 rfl ?_
    refine aw_get (npc := 27) dX8_posts_24 rfl kf_X8_9 F.1 rfl ?_
    refine aw_iconst (npc := 28) (v := 2) (by decide) dX8_posts_27 rfl ?_
    refine aw_iald (npc := 29) (x := N 2) (j := 2) dX8_posts_28 rfl F.2.1 ⟨by decide, by decide⟩ (tl_at (by omega)) ?_
    refine aw_top (y := nI pp) (epp) ?_
    refine aw_isubV (npc := 30) (v := nI (9999 - pp)) dX8_posts_29 rfl (pk_sub (a := 9999) (by omega)) ?_
    refine aw_iconst (npc := 31) (v := 0) (by decide) dX8_posts_30 rfl ?_
    refine aw_iload_n (npc := 32) rfl dX8_posts_31 rfl ?_
    refine aw_callS (npc := 35) (N := mX8_within) (mc := 0) (ms := 0) (A := [.int (nI (9999 - pp)), .int 0, .int (nI vn)]) (S := [.ref 69]) (L0 := [some (.int (nI (9999 - pp))), some (.int 0), some (.int (nI vn))]) dX8_posts_32 rfl km_X8_within kk_X8_108 rfl ⟨rfl, by decide⟩ rfl (Nat.le_of_ble_eq_true rfl) (Nat.zero_add _) (Nat.zero_add _) rfl ?_
    refine m_within ?_
    refine aw_re (S' := [.int (wn (nI (9999 - pp)) 0 (nI vn)), .ref 69]) rfl ?_
    refine aw_top (y := nI (min vn (9999 - pp))) (wn_min (by omega) (by omega)) ?_
    refine aw_callV (npc := 38) (N := mX8_goesOn) (b := 69) (mc := 0) (ms := 0) (A := [.int (nI (min vn (9999 - pp)))]) (S := []) (L0 := [some (.ref 69), some (.int (nI (min vn (9999 - pp)))), none]) dX8_posts_35 rfl km_X8_goesOn kk_X8_163 F.1 ⟨by decide, rfl⟩ rfl ⟨rfl, by decide⟩ rfl (Nat.le_of_ble_eq_true rfl) (Nat.zero_add _) (Nat.zero_add _) rfl ?_
    refine m_go (p := (min vn (9999 - pp))) (c := c) (fr := fr) (by omega) F (mi_rg hR hT) (fun o92 N93 a94 h95 hr6 F7 ol8 al9 fz10 => ?_)
    refine aw_aload_n (npc := 39) rfl dX8_posts_38 rfl ?_
    refine aw_iconst (npc := 40) (v := 4) (by decide) dX8_posts_39 rfl ?_
    refine aw_callV (npc := 43) (N := mX8_sumOf) (b := 69) (mc := 0) (ms := 0) (A := [.int 4]) (S := []) (L0 := [some (.ref 69), some (.int 4), none, none]) dX8_posts_40 rfl km_X8_sumOf kk_X8_160 F7.1 ⟨by decide, rfl⟩ rfl ⟨rfl, by decide⟩ rfl (Nat.le_of_ble_eq_true rfl) (Nat.zero_add _) (Nat.zero_add _) rfl ?_
    refine m_sumY F7 ((gOn_keep h8r _ _ _ hr6 1 (by decide) (by decide) (by decide) (by decide) (by decide) (fun f hf => by omega)).trans hR.1) h8r ?_
    refine aw_re (S' := [.int (sumM 26 N93 fr 0 0)]) rfl ?_
    refine aw_iload_n (npc := 44) rfl dX8_posts_43 rfl ?_
    refine aw_isub (npc := 45) dX8_posts_44 rfl ?_
    refine aw_iret rfl dX8_posts_45 ?_
    exact k0 vn pp hw1 hvn hpp rfl epp _ _ _ _ hr6 F7 ol8 al9 (am_fpT (fun k (hk : k < 69 ∨ 92 ≤ k) => fz10 k (by omega)) am_fp0)
  · refine aw_re (S' := [.int 0]) rfl ?_
    refine aw_if_ne (npc := 10) (tgt := 13) dX8_posts_7 rfl (by decide) (fun hc => absurd (by decide) hc) (fun _ => ?_)
    refine aw_ldc (npc := 12) kc_X8_91 dX8_posts_10 rfl ?_
    refine aw_iret rfl dX8_posts_12 ?_
    exact k1 hw1
def TVr (key : Nat) (tb : TB) (tx : List Value) (lk N : Nat → Int32) (x y z w v : Int32) : Prop := (¬ wi (lk key) 0 (N 7 - 1) ∧ v = w) ∨ ∃ t a sf, wi (lk key) 0 (N 7 - 1) ∧ lk key = nI t ∧ a < tb.1 ∧ tx[t]? = some (.ref (92 + 3 * a)) ∧ v = (wcM x y z (tb.2.2.2.2.2 a) (tb.2.2.2.2.1 a) (tb.2.2.2.1 a) 0 (sf, 0)).1 0
def MVr (key : Int32) (N : Nat → Int32) (c : Nat) (x y w v : Int32) : Prop := (cntM key N c = none ∧ v = w) ∨ ∃ t lc ky sf fa, cntM key N c = some t ∧ ky ≤ 2 ∧ lc ≤ 96 ∧ N (62 + 2 * t) = nI (1000 * ky + lc) ∧ fa 0 = x ∧ fa 1 = y ∧ v = (mwM fa (fun z9 => N (90 + 96 * t + z9)) lc 0 (sf, 0)).1 0
set_option maxHeartbeats 4000000 in
set_option maxRecDepth 100000 in
theorem C_fee {X : List Int32} {d rc rs n : Nat} {Q : am_Q} {h : am_H} {N : Nat → Int32} {tx : List Value} {lk mv : Nat → Int32} {ik wc : Int32} {fr c : Nat} {tb : TB} (O : OB ik wc h) (F : QR 1 N tx lk mv h) (G : TT tb h) (hR : RG N fr c) (hv : TXv tb.1 c tx) (hq : ∀ v9 h9, TVr 1 tb tx lk N (N 6) (N 2) 0 (N 6) v9 → QR 1 N tx lk mv h9 → TT tb h9 → am_fp (fun k => k < 92) h9 h → Q (some (.int v9)) n h9) : AW X mX7_fee (d + 12) rc rs 0 [some (.ref 0), none] [] n h Q := by
  have h8r := hR.2.1
  have h14r := hR.2.2.2.1
  refine aw_aload_n (npc := 1) rfl dX7_fee_0 rfl ?_
  refine aw_get (npc := 4) dX7_fee_1 rfl kf_X7_10 O.1 rfl ?_
  refine aw_iconst (npc := 5) (v := 1) (by decide) dX7_fee_4 rfl ?_
  refine aw_callV (npc := 8) (N := mX0_textFor) (b := 1) (mc := 0) (ms := 0) (A := [.int 1]) (S := []) (L0 := [some (.ref 1), some (.int 1), none]) dX7_fee_5 rfl km_X0_textFor kk_X7_224 F.1 ⟨by decide, rfl⟩ rfl ⟨rfl, by decide⟩ rfl (Nat.le_of_ble_eq_true rfl) (Nat.zero_add _) (Nat.zero_add _) rfl ?_
  refine g_textFor1 F hR.2.2.1 hv (fun t a hlk ht ha hta => ?_) (fun hw0 => ?_)
  · refine aw_re (S' := [.ref (92 + 3 * a)]) rfl ?_
    refine aw_astore_n (npc := 9) (L' := [some (.ref 0), some (.ref (92 + 3 * a))]) dX7_fee_8 rfl (by decide) rfl rfl ?_
    refine aw_aload_n (npc := 10) rfl dX7_fee_9 rfl ?_
    refine aw_ifnonnull (npc := 23) dX7_fee_10 (by decide) ?_
    refine aw_aload_n (npc := 24) rfl dX7_fee_23 rfl ?_
    refine aw_aload_n (npc := 25) rfl dX7_fee_24 rfl ?_
    refine aw_get (npc := 28) dX7_fee_25 rfl kf_X7_10 O.1 rfl ?_
    refine aw_get (npc := 31) dX7_fee_28 rfl kf_X7_176 F.1 rfl ?_
    refine aw_aload_n (npc := 32) rfl dX7_fee_31 rfl ?_
    refine aw_get (npc := 35) dX7_fee_32 rfl kf_X7_10 O.1 rfl ?_
    refine aw_get (npc := 38) dX7_fee_35 rfl kf_X7_160 F.1 rfl ?_
    refine aw_iconst (npc := 39) (v := 0) (by decide) dX7_fee_38 rfl ?_
    refine aw_callV (npc := 42) (N := mX5_workOut) (b := 92 + 3 * a) (mc := 0) (ms := 0) (A := [.int (N 6), .int (N 2), .int 0]) (S := []) (L0 := [some (.ref (92 + 3 * a)), some (.int (N 6)), some (.int (N 2)), some (.int 0), none, none, none]) dX7_fee_39 rfl km_X5_workOut kk_X7_228 (G a ha).1 ⟨by decide, rfl⟩ rfl ⟨rfl, by decide⟩ rfl (Nat.le_of_ble_eq_true rfl) (Nat.zero_add _) (Nat.zero_add _) rfl ?_
    obtain ⟨t0, t1, ⟨sf, t2⟩, t3, t4, t5⟩ := G a ha
    refine g_work (a0 := 92 + 3 * a) (a1 := 93 + 3 * a) (a2 := 94 + 3 * a) (by omega) (by omega) t3 t4 t5 t0 t1 t2 (fun sf9 hsf => ?_)
    have G1 := tt_stack (a := a) (sf := sf9) G
    have O2 := ob_out (a := 94 + 3 * a) (c := .inl (0, tl (tb.2.2.2.2.2 a) sf9)) (by omega) O
    have F3 := qr_out (a := 94 + 3 * a) (c := .inl (0, tl (tb.2.2.2.2.2 a) sf9)) (by omega) F
    refine aw_re (S' := [.int (sf9 0)]) rfl ?_
    refine aw_iret rfl dX7_fee_42 ?_
    exact hq _ _ (Or.inr ⟨t, a, sf, wi_idx' hR.2.2.1 (by omega) ht hlk, hlk, ha, hta, by rw [← hsf]⟩) F3 G1 (am_fpU (show ¬ ((94 + 3 * a) < 92) by omega) am_fp0)
  · refine aw_re (S' := [.null]) rfl ?_
    refine aw_astore_nN (npc := 9) (L' := [some (.ref 0), some (.null)]) dX7_fee_8 rfl (by decide) rfl rfl ?_
    refine aw_aload_nN (npc := 10) rfl dX7_fee_9 rfl ?_
    refine aw_ifnonnullN (npc := 13) dX7_fee_10 rfl ?_
    refine aw_aload_n (npc := 14) rfl dX7_fee_13 rfl ?_
    refine aw_get (npc := 17) dX7_fee_14 rfl kf_X7_10 O.1 rfl ?_
    refine aw_get (npc := 20) dX7_fee_17 rfl kf_X7_176 F.1 rfl ?_
    refine aw_goto (npc := 42) dX7_fee_20 (by decide) ?_
    refine aw_iret rfl dX7_fee_42 ?_
    exact hq _ _ (Or.inl ⟨hw0, rfl⟩) F G am_fp0
set_option maxHeartbeats 4000000 in
set_option maxRecDepth 100000 in
theorem C_fine {X : List Int32} {d rc rs n : Nat} {Q : am_Q} {h : am_H} {N : Nat → Int32} {tx : List Value} {lk mv : Nat → Int32} {ik wc : Int32} {fr c : Nat} {f : Int32} {tb : TB} (O : OB ik wc h) (F : QR 1 N tx lk mv h) (G : TT tb h) (hR : RG N fr c) (hv : TXv tb.1 c tx) (k1 : ¬ wi f 0 (N 1 - 1) → Q (some (.int (-1000000001))) n h) (k0 : ∀ j, wi f 0 (N 1 - 1) → f = nI j → j < 8 → ∀ v9 h9, TVr 2 tb tx lk N (N (26 + 5 * j)) (N (25 + 5 * j)) 0 (N (26 + 5 * j)) v9 → QR 1 N tx lk mv h9 → TT tb h9 → am_fp (fun k => k < 92) h9 h → Q (some (.int v9)) n h9) : AW X mX7_fine (d + 12) rc rs 0 [some (.ref 0), some (.int f), none, none] [] n h Q := by
  have h8r := hR.2.1
  have h14r := hR.2.2.2.1
  refine aw_aload_n (npc := 1) rfl dX7_fine_0 rfl ?_
  refine aw_get (npc := 4) dX7_fine_1 rfl kf_X7_10 O.1 rfl ?_
  refine aw_iload_n (npc := 5) rfl dX7_fine_4 rfl ?_
  refine aw_callV (npc := 8) (N := mX0_isFriend) (b := 1) (mc := 0) (ms := 0) (A := [.int f]) (S := []) (L0 := [some (.ref 1), some (.int f)]) dX7_fine_5 rfl km_X0_isFriend kk_X7_87 F.1 ⟨by decide, rfl⟩ rfl ⟨rfl, by decide⟩ rfl (Nat.le_of_ble_eq_true rfl) (Nat.zero_add _) (Nat.zero_add _) rfl ?_
  refine g_isFriend F (fun hw1 => ?_) (fun hw1 => ?_)
  · obtain ⟨fn, hfn, efn⟩ := wi_idx hR.1 (by have z := hR.2.1; omega) hw1
    subst efn
    have h8fn : fn < 8 := by have z := hR.2.1; omega
    have ffn : fN (nI fn) = fn := fN_nI (by omega)
    refine aw_re (S' := [.int 1]) rfl ?_
    refine aw_if_ne (npc := 11) (tgt := 14) dX7_fine_8 rfl (by decide) (fun _ => ?_) (fun hc => absurd hc (by decide))
    refine aw_aload_n (npc := 15) rfl dX7_fine_14 rfl ?_
    refine aw_get (npc := 18) dX7_fine_15 rfl kf_X7_10 O.1 rfl ?_
    refine aw_iconst (npc := 19) (v := 2) (by decide) dX7_fine_18 rfl ?_
    refine aw_callV (npc := 22) (N := mX0_textFor) (b := 1) (mc := 0) (ms := 0) (A := [.int 2]) (S := []) (L0 := [some (.ref 1), some (.int 2), none]) dX7_fine_19 rfl km_X0_textFor kk_X7_224 F.1 ⟨by decide, rfl⟩ rfl ⟨rfl, by decide⟩ rfl (Nat.le_of_ble_eq_true rfl) (Nat.zero_add _) (Nat.zero_add _) rfl ?_
    refine g_textFor2 F hR.2.2.1 hv (fun t a hlk ht ha hta => ?_) (fun hw0 => ?_)
    · refine aw_re (S' := [.ref (92 + 3 * a)]) rfl ?_
      refine aw_astore_n (npc := 23) (L' := [some (.ref 0), some (.int (nI fn)), some (.ref (92 + 3 * a)), none]) dX7_fine_22 rfl (by decide) rfl rfl ?_
      refine aw_aload_n (npc := 24) rfl dX7_fine_23 rfl ?_
      refine aw_get (npc := 27) dX7_fine_24 rfl kf_X7_10 O.1 rfl ?_
      refine aw_get (npc := 30) dX7_fine_27 rfl kf_X7_102 F.1 rfl ?_
      refine aw_iload_n (npc := 31) rfl dX7_fine_30 rfl ?_
      refine aw_iald (npc := 32) (x := N (26 + 5 * fn)) (j := fn) dX7_fine_31 rfl F.2.2.2.2.2.2.2.2.1 (am_ix_nI (by omega)) (tl_at (by omega)) ?_
      refine aw_istore_n (npc := 33) (L' := [some (.ref 0), some (.int (nI fn)), some (.ref (92 + 3 * a)), some (.int (N (26 + 5 * fn)))]) dX7_fine_32 rfl (by decide) rfl rfl ?_
      refine aw_aload_n (npc := 34) rfl dX7_fine_33 rfl ?_
      refine aw_ifnonnull (npc := 41) dX7_fine_34 (by decide) ?_
      refine aw_aload_n (npc := 42) rfl dX7_fine_41 rfl ?_
      refine aw_iload_n (npc := 43) rfl dX7_fine_42 rfl ?_
      refine aw_aload_n (npc := 44) rfl dX7_fine_43 rfl ?_
      refine aw_get (npc := 47) dX7_fine_44 rfl kf_X7_10 O.1 rfl ?_
      refine aw_get (npc := 50) dX7_fine_47 rfl kf_X7_99 F.1 rfl ?_
      refine aw_iload_n (npc := 51) rfl dX7_fine_50 rfl ?_
      refine aw_iald (npc := 52) (x := N (25 + 5 * fn)) (j := fn) dX7_fine_51 rfl F.2.2.2.2.2.2.2.1 (am_ix_nI (by omega)) (tl_at (by omega)) ?_
      refine aw_iconst (npc := 53) (v := 0) (by decide) dX7_fine_52 rfl ?_
      refine aw_callV (npc := 56) (N := mX5_workOut) (b := 92 + 3 * a) (mc := 0) (ms := 0) (A := [.int (N (26 + 5 * fn)), .int (N (25 + 5 * fn)), .int 0]) (S := []) (L0 := [some (.ref (92 + 3 * a)), some (.int (N (26 + 5 * fn))), some (.int (N (25 + 5 * fn))), some (.int 0), none, none, none]) dX7_fine_53 rfl km_X5_workOut kk_X7_228 (G a ha).1 ⟨by decide, rfl⟩ rfl ⟨rfl, by decide⟩ rfl (Nat.le_of_ble_eq_true rfl) (Nat.zero_add _) (Nat.zero_add _) rfl ?_
      obtain ⟨t0, t1, ⟨sf, t2⟩, t3, t4, t5⟩ := G a ha
      refine g_work (a0 := 92 + 3 * a) (a1 := 93 + 3 * a) (a2 := 94 + 3 * a) (by omega) (by omega) t3 t4 t5 t0 t1 t2 (fun sf9 hsf => ?_)
      have G2 := tt_stack (a := a) (sf := sf9) G
      have O3 := ob_out (a := 94 + 3 * a) (c := .inl (0, tl (tb.2.2.2.2.2 a) sf9)) (by omega) O
      have F4 := qr_out (a := 94 + 3 * a) (c := .inl (0, tl (tb.2.2.2.2.2 a) sf9)) (by omega) F
      refine aw_re (S' := [.int (sf9 0)]) rfl ?_
      refine aw_iret rfl dX7_fine_56 ?_
      exact k0 fn hw1 rfl h8fn _ _ (Or.inr ⟨t, a, sf, wi_idx' hR.2.2.1 (by omega) ht hlk, hlk, ha, hta, by rw [← hsf]⟩) F4 G2 (am_fpU (show ¬ ((94 + 3 * a) < 92) by omega) am_fp0)
    · refine aw_re (S' := [.null]) rfl ?_
      refine aw_astore_nN (npc := 23) (L' := [some (.ref 0), some (.int (nI fn)), some (.null), none]) dX7_fine_22 rfl (by decide) rfl rfl ?_
      refine aw_aload_n (npc := 24) rfl dX7_fine_23 rfl ?_
      refine aw_get (npc := 27) dX7_fine_24 rfl kf_X7_10 O.1 rfl ?_
      refine aw_get (npc := 30) dX7_fine_27 rfl kf_X7_102 F.1 rfl ?_
      refine aw_iload_n (npc := 31) rfl dX7_fine_30 rfl ?_
      refine aw_iald (npc := 32) (x := N (26 + 5 * fn)) (j := fn) dX7_fine_31 rfl F.2.2.2.2.2.2.2.2.1 (am_ix_nI (by omega)) (tl_at (by omega)) ?_
      refine aw_istore_n (npc := 33) (L' := [some (.ref 0), some (.int (nI fn)), some (.null), some (.int (N (26 + 5 * fn)))]) dX7_fine_32 rfl (by decide) rfl rfl ?_
      refine aw_aload_nN (npc := 34) rfl dX7_fine_33 rfl ?_
      refine aw_ifnonnullN (npc := 37) dX7_fine_34 rfl ?_
      refine aw_iload_n (npc := 38) rfl dX7_fine_37 rfl ?_
      refine aw_goto (npc := 56) dX7_fine_38 (by decide) ?_
      refine aw_iret rfl dX7_fine_56 ?_
      exact k0 fn hw1 rfl h8fn _ _ (Or.inl ⟨hw0, rfl⟩) F G am_fp0
  · refine aw_re (S' := [.int 0]) rfl ?_
    refine aw_if_ne (npc := 11) (tgt := 14) dX7_fine_8 rfl (by decide) (fun hc => absurd (by decide) hc) (fun _ => ?_)
    refine aw_ldc (npc := 13) kc_X7_78 dX7_fine_11 rfl ?_
    refine aw_iret rfl dX7_fine_13 ?_
    exact k1 hw1
set_option maxHeartbeats 4000000 in
set_option maxRecDepth 100000 in
theorem M_fee {X : List Int32} {d rc rs n : Nat} {Q : am_Q} {h : am_H} {o N : Nat → Int32} {a : Nat → Nat → Int32} {fr c : Nat} (F : MR o N a h) (hR : RG N fr c) (hT : TXM N c) (hq : ∀ v9 a9 h9, MVr 1 N c (N 6) (N 2) (N 6) v9 → MR o N a9 h9 → ak a9 a → am_fp (fun k => k < 69 ∨ 92 ≤ k) h9 h → Q (some (.int v9)) n h9) : AW X mX8_fee (d + 12) rc rs 0 [some (.ref 69), none] [] n h Q := by
  have h8r := hR.2.1
  have h14r := hR.2.2.2.1
  refine aw_aload_n (npc := 1) rfl dX8_fee_0 rfl ?_
  refine aw_iconst (npc := 2) (v := 1) (by decide) dX8_fee_1 rfl ?_
  refine aw_callV (npc := 5) (N := mX8_counts) (b := 69) (mc := 0) (ms := 0) (A := [.int 1]) (S := []) (L0 := [some (.ref 69), some (.int 1), none]) dX8_fee_2 rfl km_X8_counts kk_X8_97 F.1 ⟨by decide, rfl⟩ rfl ⟨rfl, by decide⟩ rfl (Nat.le_of_ble_eq_true rfl) (Nat.zero_add _) (Nat.zero_add _) rfl ?_
  refine m_counts (key := 1) (c := c) F hR.2.2.1 h14r ?_
  cases ec : cntM 1 N c with
  | none =>
    refine aw_re (S' := [.int (-1)]) rfl ?_
    refine aw_istore_n (npc := 6) (L' := [some (.ref 69), some (.int (-1))]) dX8_fee_5 rfl (by decide) rfl rfl ?_
    refine aw_aload_n (npc := 7) rfl dX8_fee_6 rfl ?_
    refine aw_get (npc := 10) dX8_fee_7 rfl kf_X8_52 F.1 rfl ?_
    refine aw_iconst (npc := 11) (v := 0) (by decide) dX8_fee_10 rfl ?_
    refine aw_aload_n (npc := 12) rfl dX8_fee_11 rfl ?_
    refine aw_get (npc := 15) dX8_fee_12 rfl kf_X8_9 F.1 rfl ?_
    refine aw_bipush (npc := 17) (v := 6) (by decide) dX8_fee_15 rfl ?_
    refine aw_iald (npc := 18) (x := N 6) (j := 6) dX8_fee_17 rfl F.2.1 ⟨by decide, by decide⟩ (tl_at (by omega)) ?_
    refine aw_iast (npc := 19) (j := 0) dX8_fee_18 rfl F.2.2.2.2.2.2.2.2.2.2.2.2.2.1 ⟨by decide, by decide⟩ (by rw [tl_len]; omega) rfl ?_
    have F1 := mr_82 (j := 0) (v := N 6) F
    refine aw_aload_n (npc := 20) rfl dX8_fee_19 rfl ?_
    refine aw_get (npc := 23) dX8_fee_20 rfl kf_X8_52 F1.1 rfl ?_
    refine aw_iconst (npc := 24) (v := 1) (by decide) dX8_fee_23 rfl ?_
    refine aw_aload_n (npc := 25) rfl dX8_fee_24 rfl ?_
    refine aw_get (npc := 28) dX8_fee_25 rfl kf_X8_9 F1.1 rfl ?_
    refine aw_iconst (npc := 29) (v := 2) (by decide) dX8_fee_28 rfl ?_
    refine aw_iald (npc := 30) (x := N 2) (j := 2) dX8_fee_29 rfl F1.2.1 ⟨by decide, by decide⟩ (tl_at (by omega)) ?_
    refine aw_iast (npc := 31) (j := 1) dX8_fee_30 rfl F1.2.2.2.2.2.2.2.2.2.2.2.2.2.1 ⟨by decide, by decide⟩ (by rw [tl_len]; omega) rfl ?_
    have F2 := mr_82 (j := 1) (v := N 2) F1
    refine aw_iload_n (npc := 32) rfl dX8_fee_31 rfl ?_
    refine aw_if_ge (npc := 35) (tgt := 45) dX8_fee_32 rfl (by decide) (fun hc => absurd hc (by decide)) (fun _ => ?_)
    refine aw_aload_n (npc := 36) rfl dX8_fee_35 rfl ?_
    refine aw_get (npc := 39) dX8_fee_36 rfl kf_X8_9 F2.1 rfl ?_
    refine aw_bipush (npc := 41) (v := 6) (by decide) dX8_fee_39 rfl ?_
    refine aw_iald (npc := 42) (x := N 6) (j := 6) dX8_fee_41 rfl F2.2.1 ⟨by decide, by decide⟩ (tl_at (by omega)) ?_
    refine aw_goto (npc := 50) dX8_fee_42 (by decide) ?_
    refine aw_iret rfl dX8_fee_50 ?_
    exact hq _ _ _ (Or.inl ⟨ec, rfl⟩) F2 (fun k h1 h2 => (aup_n h2).trans (aup_n h2)) (am_fpU (show ¬ (82 < 69 ∨ 92 ≤ 82) by omega) (am_fpU (show ¬ (82 < 69 ∨ 92 ≤ 82) by omega) am_fp0))
  | some t =>
    obtain ⟨ky, lc, hky, hlc1, hlc, hhd, hvl⟩ := hT.2.2 t (cntM_lt ec).1
    have ht14 : t < 14 := by have z1 := (cntM_lt ec).1; omega
    refine aw_re (S' := [.int (nI t)]) rfl ?_
    refine aw_istore_n (npc := 6) (L' := [some (.ref 69), some (.int (nI t))]) dX8_fee_5 rfl (by decide) rfl rfl ?_
    refine aw_aload_n (npc := 7) rfl dX8_fee_6 rfl ?_
    refine aw_get (npc := 10) dX8_fee_7 rfl kf_X8_52 F.1 rfl ?_
    refine aw_iconst (npc := 11) (v := 0) (by decide) dX8_fee_10 rfl ?_
    refine aw_aload_n (npc := 12) rfl dX8_fee_11 rfl ?_
    refine aw_get (npc := 15) dX8_fee_12 rfl kf_X8_9 F.1 rfl ?_
    refine aw_bipush (npc := 17) (v := 6) (by decide) dX8_fee_15 rfl ?_
    refine aw_iald (npc := 18) (x := N 6) (j := 6) dX8_fee_17 rfl F.2.1 ⟨by decide, by decide⟩ (tl_at (by omega)) ?_
    refine aw_iast (npc := 19) (j := 0) dX8_fee_18 rfl F.2.2.2.2.2.2.2.2.2.2.2.2.2.1 ⟨by decide, by decide⟩ (by rw [tl_len]; omega) rfl ?_
    have F3 := mr_82 (j := 0) (v := N 6) F
    refine aw_aload_n (npc := 20) rfl dX8_fee_19 rfl ?_
    refine aw_get (npc := 23) dX8_fee_20 rfl kf_X8_52 F3.1 rfl ?_
    refine aw_iconst (npc := 24) (v := 1) (by decide) dX8_fee_23 rfl ?_
    refine aw_aload_n (npc := 25) rfl dX8_fee_24 rfl ?_
    refine aw_get (npc := 28) dX8_fee_25 rfl kf_X8_9 F3.1 rfl ?_
    refine aw_iconst (npc := 29) (v := 2) (by decide) dX8_fee_28 rfl ?_
    refine aw_iald (npc := 30) (x := N 2) (j := 2) dX8_fee_29 rfl F3.2.1 ⟨by decide, by decide⟩ (tl_at (by omega)) ?_
    refine aw_iast (npc := 31) (j := 1) dX8_fee_30 rfl F3.2.2.2.2.2.2.2.2.2.2.2.2.2.1 ⟨by decide, by decide⟩ (by rw [tl_len]; omega) rfl ?_
    have F4 := mr_82 (j := 1) (v := N 2) F3
    refine aw_iload_n (npc := 32) rfl dX8_fee_31 rfl ?_
    refine aw_if_ge (npc := 35) (tgt := 45) dX8_fee_32 rfl (by decide) (fun _ => ?_) (fun hc => absurd ((nI_leI (a := 0) (b := t) (by omega) (by omega)).mpr (by omega)) hc)
    refine aw_aload_n (npc := 46) rfl dX8_fee_45 rfl ?_
    refine aw_iload_n (npc := 47) rfl dX8_fee_46 rfl ?_
    refine aw_callV (npc := 50) (N := mX8_worksOut) (b := 69) (mc := 0) (ms := 0) (A := [.int (nI t)]) (S := []) (L0 := [some (.ref 69), some (.int (nI t)), none, none, none, none]) dX8_fee_47 rfl km_X8_worksOut kk_X8_105 F4.1 ⟨by decide, rfl⟩ rfl ⟨rfl, by decide⟩ rfl (Nat.le_of_ble_eq_true rfl) (Nat.zero_add _) (Nat.zero_add _) rfl ?_
    refine m_work F4 ht14 hky hlc hhd hvl rfl (fun a96 hp7 F8 ka9 ew10 fz11 => ?_)
    refine aw_re (S' := [.int (a96 81 0)]) rfl ?_
    refine aw_iret rfl dX8_fee_50 ?_
    exact hq _ _ _ (Or.inr ⟨t, lc, ky, _, _, ec, hky, hlc, hhd, rfl, rfl, congrFun ew10 0⟩) F8 (fun k h1 h2 => (ka9 k h1).trans ((aup_n h2).trans (aup_n h2))) (am_fpT (fun k (hk : k < 69 ∨ 92 ≤ k) => fz11 k (by omega)) (am_fpU (show ¬ (82 < 69 ∨ 92 ≤ 82) by omega) (am_fpU (show ¬ (82 < 69 ∨ 92 ≤ 82) by omega) am_fp0)))
set_option maxHeartbeats 4000000 in
set_option maxRecDepth 100000 in
theorem M_fine {X : List Int32} {d rc rs n : Nat} {Q : am_Q} {h : am_H} {o N : Nat → Int32} {a : Nat → Nat → Int32} {fr c : Nat} {f : Int32} (F : MR o N a h) (hR : RG N fr c) (hT : TXM N c) (k1 : ¬ wi f 0 (N 1 - 1) → Q (some (.int (-1000000001))) n h) (k0 : ∀ j, wi f 0 (N 1 - 1) → f = nI j → j < 8 → ∀ v9 a9 h9, MVr 2 N c (N (26 + 5 * j)) (N (25 + 5 * j)) (N (26 + 5 * j)) v9 → MR o N a9 h9 → ak a9 a → am_fp (fun k => k < 69 ∨ 92 ≤ k) h9 h → Q (some (.int v9)) n h9) : AW X mX8_fine (d + 12) rc rs 0 [some (.ref 69), some (.int f), none] [] n h Q := by
  have h8r := hR.2.1
  have h14r := hR.2.2.2.1
  refine aw_aload_n (npc := 1) rfl dX8_fine_0 rfl ?_
  refine aw_iload_n (npc := 2) rfl dX8_fine_1 rfl ?_
  refine aw_callV (npc := 5) (N := mX8_isFriend) (b := 69) (mc := 0) (ms := 0) (A := [.int f]) (S := []) (L0 := [some (.ref 69), some (.int f)]) dX8_fine_2 rfl km_X8_isFriend kk_X8_114 F.1 ⟨by decide, rfl⟩ rfl ⟨rfl, by decide⟩ rfl (Nat.le_of_ble_eq_true rfl) (Nat.zero_add _) (Nat.zero_add _) rfl ?_
  refine m_isFriend F (fun hw1 => ?_) (fun hw1 => ?_)
  · obtain ⟨fn, hfn, efn⟩ := wi_idx hR.1 (by have z := hR.2.1; omega) hw1
    subst efn
    have h8fn : fn < 8 := by have z := hR.2.1; omega
    have ffn : fN (nI fn) = fn := fN_nI (by omega)
    refine aw_re (S' := [.int 1]) rfl ?_
    refine aw_if_ne (npc := 8) (tgt := 11) dX8_fine_5 rfl (by decide) (fun _ => ?_) (fun hc => absurd hc (by decide))
    refine aw_aload_n (npc := 12) rfl dX8_fine_11 rfl ?_
    refine aw_iconst (npc := 13) (v := 2) (by decide) dX8_fine_12 rfl ?_
    refine aw_callV (npc := 16) (N := mX8_counts) (b := 69) (mc := 0) (ms := 0) (A := [.int 2]) (S := []) (L0 := [some (.ref 69), some (.int 2), none]) dX8_fine_13 rfl km_X8_counts kk_X8_97 F.1 ⟨by decide, rfl⟩ rfl ⟨rfl, by decide⟩ rfl (Nat.le_of_ble_eq_true rfl) (Nat.zero_add _) (Nat.zero_add _) rfl ?_
    refine m_counts (key := 2) (c := c) F hR.2.2.1 h14r ?_
    cases ec : cntM 2 N c with
    | none =>
      refine aw_re (S' := [.int (-1)]) rfl ?_
      refine aw_istore_n (npc := 17) (L' := [some (.ref 69), some (.int (nI fn)), some (.int (-1))]) dX8_fine_16 rfl (by decide) rfl rfl ?_
      refine aw_aload_n (npc := 18) rfl dX8_fine_17 rfl ?_
      refine aw_get (npc := 21) dX8_fine_18 rfl kf_X8_52 F.1 rfl ?_
      refine aw_iconst (npc := 22) (v := 0) (by decide) dX8_fine_21 rfl ?_
      refine aw_aload_n (npc := 23) rfl dX8_fine_22 rfl ?_
      refine aw_iload_n (npc := 24) rfl dX8_fine_23 rfl ?_
      refine aw_iconst (npc := 25) (v := 4) (by decide) dX8_fine_24 rfl ?_
      refine aw_callV (npc := 28) (N := mX8_of) (b := 69) (mc := 0) (ms := 0) (A := [.int (nI fn), .int 4]) (S := [.int 0, .ref 82]) (L0 := [some (.ref 69), some (.int (nI fn)), some (.int 4)]) dX8_fine_25 rfl km_X8_of kk_X8_101 F.1 ⟨by decide, rfl⟩ rfl ⟨rfl, by decide⟩ rfl (Nat.le_of_ble_eq_true rfl) (Nat.zero_add _) (Nat.zero_add _) rfl ?_
      refine m_of4 (f := fn) F (by omega) ?_
      refine aw_re (S' := [.int (N (26 + 5 * fn)), .int 0, .ref 82]) rfl ?_
      refine aw_iast (npc := 29) (j := 0) dX8_fine_28 rfl F.2.2.2.2.2.2.2.2.2.2.2.2.2.1 ⟨by decide, by decide⟩ (by rw [tl_len]; omega) rfl ?_
      have F2 := mr_82 (j := 0) (v := N (26 + 5 * fn)) F
      refine aw_aload_n (npc := 30) rfl dX8_fine_29 rfl ?_
      refine aw_get (npc := 33) dX8_fine_30 rfl kf_X8_52 F2.1 rfl ?_
      refine aw_iconst (npc := 34) (v := 1) (by decide) dX8_fine_33 rfl ?_
      refine aw_aload_n (npc := 35) rfl dX8_fine_34 rfl ?_
      refine aw_iload_n (npc := 36) rfl dX8_fine_35 rfl ?_
      refine aw_iconst (npc := 37) (v := 3) (by decide) dX8_fine_36 rfl ?_
      refine aw_callV (npc := 40) (N := mX8_of) (b := 69) (mc := 0) (ms := 0) (A := [.int (nI fn), .int 3]) (S := [.int 1, .ref 82]) (L0 := [some (.ref 69), some (.int (nI fn)), some (.int 3)]) dX8_fine_37 rfl km_X8_of kk_X8_101 F2.1 ⟨by decide, rfl⟩ rfl ⟨rfl, by decide⟩ rfl (Nat.le_of_ble_eq_true rfl) (Nat.zero_add _) (Nat.zero_add _) rfl ?_
      refine m_of3 (f := fn) F2 (by omega) ?_
      refine aw_re (S' := [.int (N (25 + 5 * fn)), .int 1, .ref 82]) rfl ?_
      refine aw_iast (npc := 41) (j := 1) dX8_fine_40 rfl F2.2.2.2.2.2.2.2.2.2.2.2.2.2.1 ⟨by decide, by decide⟩ (by rw [tl_len]; omega) rfl ?_
      have F3 := mr_82 (j := 1) (v := N (25 + 5 * fn)) F2
      refine aw_iload_n (npc := 42) rfl dX8_fine_41 rfl ?_
      refine aw_if_ge (npc := 45) (tgt := 54) dX8_fine_42 rfl (by decide) (fun hc => absurd hc (by decide)) (fun _ => ?_)
      refine aw_aload_n (npc := 46) rfl dX8_fine_45 rfl ?_
      refine aw_iload_n (npc := 47) rfl dX8_fine_46 rfl ?_
      refine aw_iconst (npc := 48) (v := 4) (by decide) dX8_fine_47 rfl ?_
      refine aw_callV (npc := 51) (N := mX8_of) (b := 69) (mc := 0) (ms := 0) (A := [.int (nI fn), .int 4]) (S := []) (L0 := [some (.ref 69), some (.int (nI fn)), some (.int 4)]) dX8_fine_48 rfl km_X8_of kk_X8_101 F3.1 ⟨by decide, rfl⟩ rfl ⟨rfl, by decide⟩ rfl (Nat.le_of_ble_eq_true rfl) (Nat.zero_add _) (Nat.zero_add _) rfl ?_
      refine m_of4 (f := fn) F3 (by omega) ?_
      refine aw_re (S' := [.int (N (26 + 5 * fn))]) rfl ?_
      refine aw_goto (npc := 59) dX8_fine_51 (by decide) ?_
      refine aw_iret rfl dX8_fine_59 ?_
      exact k0 fn hw1 rfl h8fn _ _ _ (Or.inl ⟨ec, rfl⟩) F3 (fun k h1 h2 => (aup_n h2).trans (aup_n h2)) (am_fpU (show ¬ (82 < 69 ∨ 92 ≤ 82) by omega) (am_fpU (show ¬ (82 < 69 ∨ 92 ≤ 82) by omega) am_fp0))
    | some t =>
      obtain ⟨ky, lc, hky, hlc1, hlc, hhd, hvl⟩ := hT.2.2 t (cntM_lt ec).1
      have ht14 : t < 14 := by have z1 := (cntM_lt ec).1; omega
      refine aw_re (S' := [.int (nI t)]) rfl ?_
      refine aw_istore_n (npc := 17) (L' := [some (.ref 69), some (.int (nI fn)), some (.int (nI t))]) dX8_fine_16 rfl (by decide) rfl rfl ?_
      refine aw_aload_n (npc := 18) rfl dX8_fine_17 rfl ?_
      refine aw_get (npc := 21) dX8_fine_18 rfl kf_X8_52 F.1 rfl ?_
      refine aw_iconst (npc := 22) (v := 0) (by decide) dX8_fine_21 rfl ?_
      refine aw_aload_n (npc := 23) rfl dX8_fine_22 rfl ?_
      refine aw_iload_n (npc := 24) rfl dX8_fine_23 rfl ?_
      refine aw_iconst (npc := 25) (v := 4) (by decide) dX8_fine_24 rfl ?_
      refine aw_callV (npc := 28) (N := mX8_of) (b := 69) (mc := 0) (ms := 0) (A := [.int (nI fn), .int 4]) (S := [.int 0, .ref 82]) (L0 := [some (.ref 69), some (.int (nI fn)), some (.int 4)]) dX8_fine_25 rfl km_X8_of kk_X8_101 F.1 ⟨by decide, rfl⟩ rfl ⟨rfl, by decide⟩ rfl (Nat.le_of_ble_eq_true rfl) (Nat.zero_add _) (Nat.zero_add _) rfl ?_
      refine m_of4 (f := fn) F (by omega) ?_
      refine aw_re (S' := [.int (N (26 + 5 * fn)), .int 0, .ref 82]) rfl ?_
      refine aw_iast (npc := 29) (j := 0) dX8_fine_28 rfl F.2.2.2.2.2.2.2.2.2.2.2.2.2.1 ⟨by decide, by decide⟩ (by rw [tl_len]; omega) rfl ?_
      have F4 := mr_82 (j := 0) (v := N (26 + 5 * fn)) F
      refine aw_aload_n (npc := 30) rfl dX8_fine_29 rfl ?_
      refine aw_get (npc := 33) dX8_fine_30 rfl kf_X8_52 F4.1 rfl ?_
      refine aw_iconst (npc := 34) (v := 1) (by decide) dX8_fine_33 rfl ?_
      refine aw_aload_n (npc := 35) rfl dX8_fine_34 rfl ?_
      refine aw_iload_n (npc := 36) rfl dX8_fine_35 rfl ?_
      refine aw_iconst (npc := 37) (v := 3) (by decide) dX8_fine_36 rfl ?_
      refine aw_callV (npc := 40) (N := mX8_of) (b := 69) (mc := 0) (ms := 0) (A := [.int (nI fn), .int 3]) (S := [.int 1, .ref 82]) (L0 := [some (.ref 69), some (.int (nI fn)), some (.int 3)]) dX8_fine_37 rfl km_X8_of kk_X8_101 F4.1 ⟨by decide, rfl⟩ rfl ⟨rfl, by decide⟩ rfl (Nat.le_of_ble_eq_true rfl) (Nat.zero_add _) (Nat.zero_add _) rfl ?_
      refine m_of3 (f := fn) F4 (by omega) ?_
      refine aw_re (S' := [.int (N (25 + 5 * fn)), .int 1, .ref 82]) rfl ?_
      refine aw_iast (npc := 41) (j := 1) dX8_fine_40 rfl F4.2.2.2.2.2.2.2.2.2.2.2.2.2.1 ⟨by decide, by decide⟩ (by rw [tl_len]; omega) rfl ?_
      have F5 := mr_82 (j := 1) (v := N (25 + 5 * fn)) F4
      refine aw_iload_n (npc := 42) rfl dX8_fine_41 rfl ?_
      refine aw_if_ge (npc := 45) (tgt := 54) dX8_fine_42 rfl (by decide) (fun _ => ?_) (fun hc => absurd ((nI_leI (a := 0) (b := t) (by omega) (by omega)).mpr (by omega)) hc)
      refine aw_aload_n (npc := 55) rfl dX8_fine_54 rfl ?_
      refine aw_iload_n (npc := 56) rfl dX8_fine_55 rfl ?_
      refine aw_callV (npc := 59) (N := mX8_worksOut) (b := 69) (mc := 0) (ms := 0) (A := [.int (nI t)]) (S := []) (L0 := [some (.ref 69), some (.int (nI t)), none, none, none, none]) dX8_fine_56 rfl km_X8_worksOut kk_X8_105 F5.1 ⟨by decide, rfl⟩ rfl ⟨rfl, by decide⟩ rfl (Nat.le_of_ble_eq_true rfl) (Nat.zero_add _) (Nat.zero_add _) rfl ?_
      refine m_work F5 ht14 hky hlc hhd hvl rfl (fun a97 hp8 F9 ka10 ew11 fz12 => ?_)
      refine aw_re (S' := [.int (a97 81 0)]) rfl ?_
      refine aw_iret rfl dX8_fine_59 ?_
      exact k0 fn hw1 rfl h8fn _ _ _ (Or.inr ⟨t, lc, ky, _, _, ec, hky, hlc, hhd, rfl, rfl, congrFun ew11 0⟩) F9 (fun k h1 h2 => (ka10 k h1).trans ((aup_n h2).trans (aup_n h2))) (am_fpT (fun k (hk : k < 69 ∨ 92 ≤ k) => fz12 k (by omega)) (am_fpU (show ¬ (82 < 69 ∨ 92 ≤ 82) by omega) (am_fpU (show ¬ (82 < 69 ∨ 92 ≤ 82) by omega) am_fp0)))
  · refine aw_re (S' := [.int 0]) rfl ?_
    refine aw_if_ne (npc := 8) (tgt := 11) dX8_fine_5 rfl (by decide) (fun hc => absurd (by decide) hc) (fun _ => ?_)
    refine aw_ldc (npc := 10) kc_X8_91 dX8_fine_8 rfl ?_
    refine aw_iret rfl dX8_fine_10 ?_
    exact k1 hw1
