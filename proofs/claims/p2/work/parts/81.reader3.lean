def wz0 (tp : Nat → Int32) (ρ : RS) : Prop := ρ.1.1 = 1 ∧ ρ.1.2.2 = ρ.1.2.1 + 4 ∧ tp (ρ.1.2.1 + 0) = 116 ∧ tp (ρ.1.2.1 + 1) = 111 ∧ tp (ρ.1.2.1 + 2) = 110 ∧ tp (ρ.1.2.1 + 3) = 101
def wz1 (tp : Nat → Int32) (ρ : RS) : Prop := ρ.1.1 = 1 ∧ ρ.1.2.2 = ρ.1.2.1 + 3 ∧ tp (ρ.1.2.1 + 0) = 102 ∧ tp (ρ.1.2.1 + 1) = 101 ∧ tp (ρ.1.2.1 + 2) = 101
def wz2 (tp : Nat → Int32) (ρ : RS) : Prop := ρ.1.1 = 1 ∧ ρ.1.2.2 = ρ.1.2.1 + 4 ∧ tp (ρ.1.2.1 + 0) = 102 ∧ tp (ρ.1.2.1 + 1) = 105 ∧ tp (ρ.1.2.1 + 2) = 110 ∧ tp (ρ.1.2.1 + 3) = 101
set_option maxHeartbeats 4000000 in
set_option maxRecDepth 100000 in
theorem r_isWord0 {X : List Int32} {d rc rs n : Nat} {Q : am_Q} {h : am_H} {L : Nat} {tp : Nat → Int32} {ρ : RS} (H : RX ρ L tp h) (Wf : WR L tp ρ) (k1 : wz0 tp ρ → Q (some (.int 1)) n h) (k0 : ¬ wz0 tp ρ → Q (some (.int 0)) n h) : AW X mX1_isWord (d + 8) rc rs 0 [some (.ref 39), some (.ref (1000002 + 0)), none] [] n h Q := by
  obtain ⟨wk, w96, wcl, wob, wog, wft⟩ := id Wf
  have we := wk.1
  have wf := wk.2.1
  have wt := wk.2.2.1
  refine aw_aload_n (npc := 1) rfl dX1_isWord_0 rfl ?_
  obtain ⟨r8u, cd8u, Rd8u, m1_8, m2_8, m3_8, m4_8, m5_8, m7_8, m8_8, m9_8, m10_8, mc_8⟩ := id H
  refine aw_get (npc := 4) dX1_isWord_1 rfl kf_X1_22 Rd8u.1 rfl ?_
  refine aw_top (y := nI ρ.1.1) (m2_8) ?_
  refine aw_iconst (npc := 5) (v := 1) (by decide) dX1_isWord_4 rfl ?_
  refine aw_icmp_ne (npc := 8) (tgt := 24) dX1_isWord_5 rfl (by decide) (fun hc1 => ?_) (fun hc1 => ?_)
  · have hc1N : ¬ ρ.1.1 = 1 := fun z9q => hc1 ((nI_eq (a := ρ.1.1) (b := 1) (by omega) (by omega)).mpr z9q)
    refine aw_iconst (npc := 25) (v := 0) (by decide) dX1_isWord_24 rfl ?_
    refine aw_zret rfl rfl dX1_isWord_25 ?_
    exact k0 (fun z => hc1N z.1)
  · have hc1N := (nI_eq (a := ρ.1.1) (b := 1) (by omega) (by omega)).mp hc1
    refine aw_aload_n (npc := 9) rfl dX1_isWord_8 rfl ?_
    refine aw_get (npc := 12) dX1_isWord_9 rfl kf_X1_18 Rd8u.1 rfl ?_
    refine aw_top (y := nI ρ.1.2.2) (m1_8) ?_
    refine aw_aload_n (npc := 13) rfl dX1_isWord_12 rfl ?_
    refine aw_get (npc := 16) dX1_isWord_13 rfl kf_X1_25 Rd8u.1 rfl ?_
    refine aw_top (y := nI ρ.1.2.1) (m3_8) ?_
    refine aw_isubV (npc := 17) (v := nI (ρ.1.2.2 - ρ.1.2.1)) dX1_isWord_16 rfl (pk_sub (by omega)) ?_
    refine aw_aload_n (npc := 18) rfl dX1_isWord_17 rfl ?_
    refine aw_callVS (npc := 21) (N := mJ0_length_8abf5) (i := 0) (mc := 0) (ms := 0) (A := []) (S := [.int (nI (ρ.1.2.2 - ρ.1.2.1))]) (L0 := [some (.ref (1000002 + 0))]) dX1_isWord_18 rfl km_J0_length_8abf5 kk_X1_83 (by omega) rfl rfl ⟨rfl, by decide⟩ rfl (Nat.le_of_ble_eq_true rfl) (Nat.zero_add _) (Nat.zero_add _) rfl ?_
    refine c_slen (i := 0) (by omega) ?_
    refine aw_re (S' := [.int 4, .int (nI (ρ.1.2.2 - ρ.1.2.1))]) rfl ?_
    refine aw_icmp_eq (npc := 24) (tgt := 26) dX1_isWord_21 rfl (by decide) (fun hc2 => ?_) (fun hc2 => ?_)
    · have hc2N := (nI_eq (a := (ρ.1.2.2 - ρ.1.2.1)) (b := 4) (by omega) (by omega)).mp hc2
      refine aw_iconst (npc := 27) (v := 0) (by decide) dX1_isWord_26 rfl ?_
      refine aw_istore_n (npc := 28) (L' := [some (.ref 39), some (.ref (1000002 + 0)), some (.int 0)]) dX1_isWord_27 rfl (by decide) rfl rfl ?_
      refine aw_iload_n (npc := 29) rfl dX1_isWord_28 rfl ?_
      refine aw_aload_n (npc := 30) rfl dX1_isWord_29 rfl ?_
      refine aw_callVS (npc := 33) (N := mJ0_length_8abf5) (i := 0) (mc := 0) (ms := 0) (A := []) (S := [.int 0]) (L0 := [some (.ref (1000002 + 0))]) dX1_isWord_30 rfl km_J0_length_8abf5 kk_X1_83 (by omega) rfl rfl ⟨rfl, by decide⟩ rfl (Nat.le_of_ble_eq_true rfl) (Nat.zero_add _) (Nat.zero_add _) rfl ?_
      refine c_slen (i := 0) (by omega) ?_
      refine aw_re (S' := [.int 4, .int 0]) rfl ?_
      refine aw_icmp_ge (npc := 36) (tgt := 66) dX1_isWord_33 rfl (by decide) (fun hc => absurd hc (by decide)) (fun _ => ?_)
      refine aw_aload_n (npc := 37) rfl dX1_isWord_36 rfl ?_
      refine aw_get (npc := 40) dX1_isWord_37 rfl kf_X1_12 Rd8u.1 rfl ?_
      refine aw_get (npc := 43) dX1_isWord_40 rfl kf_X1_76 Rd8u.2.1 rfl ?_
      refine aw_aload_n (npc := 44) rfl dX1_isWord_43 rfl ?_
      refine aw_get (npc := 47) dX1_isWord_44 rfl kf_X1_25 Rd8u.1 rfl ?_
      refine aw_top (y := nI ρ.1.2.1) (m3_8) ?_
      refine aw_iload_n (npc := 48) rfl dX1_isWord_47 rfl ?_
      refine aw_iaddV (npc := 49) (v := nI (ρ.1.2.1 + 0)) dX1_isWord_48 rfl (nI_add _ 0) ?_
      refine aw_iald (npc := 50) (x := tp (ρ.1.2.1 + 0)) (j := (ρ.1.2.1 + 0)) dX1_isWord_49 rfl Rd8u.2.2.1 (am_ix_nI (by omega)) (tl_at (by omega)) ?_
      refine aw_aload_n (npc := 51) rfl dX1_isWord_50 rfl ?_
      refine aw_iload_n (npc := 52) rfl dX1_isWord_51 rfl ?_
      refine aw_callVS (npc := 55) (N := mJ0_charAt_5068e) (i := 0) (mc := 0) (ms := 0) (A := [.int 0]) (S := [.int (tp (ρ.1.2.1 + 0))]) (L0 := [some (.ref (1000002 + 0)), some (.int 0)]) dX1_isWord_52 rfl km_J0_charAt_5068e kk_X1_88 (by omega) rfl rfl ⟨rfl, by decide⟩ rfl (Nat.le_of_ble_eq_true rfl) (Nat.zero_add _) (Nat.zero_add _) rfl ?_
      refine c_sch (i := 0) (k := 0) (by omega) (by decide) ?_
      refine aw_re (S' := [.int (sch 0 0), .int (tp (ρ.1.2.1 + 0))]) rfl ?_
      refine aw_top (y := 116) (by decide) ?_
      refine aw_icmp_eq (npc := 58) (tgt := 60) dX1_isWord_55 rfl (by decide) (fun hc3 => ?_) (fun hc3 => ?_)
      · refine aw_iinc (npc := 63) (v := 1) (L' := [some (.ref 39), some (.ref (1000002 + 0)), some (.int 1)]) dX1_isWord_60 rfl rfl (by decide) (by decide) rfl rfl ?_
        refine aw_goto (npc := 28) dX1_isWord_63 (by decide) ?_
        refine aw_iload_n (npc := 29) rfl dX1_isWord_28 rfl ?_
        refine aw_aload_n (npc := 30) rfl dX1_isWord_29 rfl ?_
        refine aw_callVS (npc := 33) (N := mJ0_length_8abf5) (i := 0) (mc := 0) (ms := 0) (A := []) (S := [.int 1]) (L0 := [some (.ref (1000002 + 0))]) dX1_isWord_30 rfl km_J0_length_8abf5 kk_X1_83 (by omega) rfl rfl ⟨rfl, by decide⟩ rfl (Nat.le_of_ble_eq_true rfl) (Nat.zero_add _) (Nat.zero_add _) rfl ?_
        refine c_slen (i := 0) (by omega) ?_
        refine aw_re (S' := [.int 4, .int 1]) rfl ?_
        refine aw_icmp_ge (npc := 36) (tgt := 66) dX1_isWord_33 rfl (by decide) (fun hc => absurd hc (by decide)) (fun _ => ?_)
        refine aw_aload_n (npc := 37) rfl dX1_isWord_36 rfl ?_
        refine aw_get (npc := 40) dX1_isWord_37 rfl kf_X1_12 Rd8u.1 rfl ?_
        refine aw_get (npc := 43) dX1_isWord_40 rfl kf_X1_76 Rd8u.2.1 rfl ?_
        refine aw_aload_n (npc := 44) rfl dX1_isWord_43 rfl ?_
        refine aw_get (npc := 47) dX1_isWord_44 rfl kf_X1_25 Rd8u.1 rfl ?_
        refine aw_top (y := nI ρ.1.2.1) (m3_8) ?_
        refine aw_iload_n (npc := 48) rfl dX1_isWord_47 rfl ?_
        refine aw_iaddV (npc := 49) (v := nI (ρ.1.2.1 + 1)) dX1_isWord_48 rfl (nI_add _ 1) ?_
        refine aw_iald (npc := 50) (x := tp (ρ.1.2.1 + 1)) (j := (ρ.1.2.1 + 1)) dX1_isWord_49 rfl Rd8u.2.2.1 (am_ix_nI (by omega)) (tl_at (by omega)) ?_
        refine aw_aload_n (npc := 51) rfl dX1_isWord_50 rfl ?_
        refine aw_iload_n (npc := 52) rfl dX1_isWord_51 rfl ?_
        refine aw_callVS (npc := 55) (N := mJ0_charAt_5068e) (i := 0) (mc := 0) (ms := 0) (A := [.int 1]) (S := [.int (tp (ρ.1.2.1 + 1))]) (L0 := [some (.ref (1000002 + 0)), some (.int 1)]) dX1_isWord_52 rfl km_J0_charAt_5068e kk_X1_88 (by omega) rfl rfl ⟨rfl, by decide⟩ rfl (Nat.le_of_ble_eq_true rfl) (Nat.zero_add _) (Nat.zero_add _) rfl ?_
        refine c_sch (i := 0) (k := 1) (by omega) (by decide) ?_
        refine aw_re (S' := [.int (sch 0 1), .int (tp (ρ.1.2.1 + 1))]) rfl ?_
        refine aw_top (y := 111) (by decide) ?_
        refine aw_icmp_eq (npc := 58) (tgt := 60) dX1_isWord_55 rfl (by decide) (fun hc4 => ?_) (fun hc4 => ?_)
        · refine aw_iinc (npc := 63) (v := 2) (L' := [some (.ref 39), some (.ref (1000002 + 0)), some (.int 2)]) dX1_isWord_60 rfl rfl (by decide) (by decide) rfl rfl ?_
          refine aw_goto (npc := 28) dX1_isWord_63 (by decide) ?_
          refine aw_iload_n (npc := 29) rfl dX1_isWord_28 rfl ?_
          refine aw_aload_n (npc := 30) rfl dX1_isWord_29 rfl ?_
          refine aw_callVS (npc := 33) (N := mJ0_length_8abf5) (i := 0) (mc := 0) (ms := 0) (A := []) (S := [.int 2]) (L0 := [some (.ref (1000002 + 0))]) dX1_isWord_30 rfl km_J0_length_8abf5 kk_X1_83 (by omega) rfl rfl ⟨rfl, by decide⟩ rfl (Nat.le_of_ble_eq_true rfl) (Nat.zero_add _) (Nat.zero_add _) rfl ?_
          refine c_slen (i := 0) (by omega) ?_
          refine aw_re (S' := [.int 4, .int 2]) rfl ?_
          refine aw_icmp_ge (npc := 36) (tgt := 66) dX1_isWord_33 rfl (by decide) (fun hc => absurd hc (by decide)) (fun _ => ?_)
          refine aw_aload_n (npc := 37) rfl dX1_isWord_36 rfl ?_
          refine aw_get (npc := 40) dX1_isWord_37 rfl kf_X1_12 Rd8u.1 rfl ?_
          refine aw_get (npc := 43) dX1_isWord_40 rfl kf_X1_76 Rd8u.2.1 rfl ?_
          refine aw_aload_n (npc := 44) rfl dX1_isWord_43 rfl ?_
          refine aw_get (npc := 47) dX1_isWord_44 rfl kf_X1_25 Rd8u.1 rfl ?_
          refine aw_top (y := nI ρ.1.2.1) (m3_8) ?_
          refine aw_iload_n (npc := 48) rfl dX1_isWord_47 rfl ?_
          refine aw_iaddV (npc := 49) (v := nI (ρ.1.2.1 + 2)) dX1_isWord_48 rfl (nI_add _ 2) ?_
          refine aw_iald (npc := 50) (x := tp (ρ.1.2.1 + 2)) (j := (ρ.1.2.1 + 2)) dX1_isWord_49 rfl Rd8u.2.2.1 (am_ix_nI (by omega)) (tl_at (by omega)) ?_
          refine aw_aload_n (npc := 51) rfl dX1_isWord_50 rfl ?_
          refine aw_iload_n (npc := 52) rfl dX1_isWord_51 rfl ?_
          refine aw_callVS (npc := 55) (N := mJ0_charAt_5068e) (i := 0) (mc := 0) (ms := 0) (A := [.int 2]) (S := [.int (tp (ρ.1.2.1 + 2))]) (L0 := [some (.ref (1000002 + 0)), some (.int 2)]) dX1_isWord_52 rfl km_J0_charAt_5068e kk_X1_88 (by omega) rfl rfl ⟨rfl, by decide⟩ rfl (Nat.le_of_ble_eq_true rfl) (Nat.zero_add _) (Nat.zero_add _) rfl ?_
          refine c_sch (i := 0) (k := 2) (by omega) (by decide) ?_
          refine aw_re (S' := [.int (sch 0 2), .int (tp (ρ.1.2.1 + 2))]) rfl ?_
          refine aw_top (y := 110) (by decide) ?_
          refine aw_icmp_eq (npc := 58) (tgt := 60) dX1_isWord_55 rfl (by decide) (fun hc5 => ?_) (fun hc5 => ?_)
          · refine aw_iinc (npc := 63) (v := 3) (L' := [some (.ref 39), some (.ref (1000002 + 0)), some (.int 3)]) dX1_isWord_60 rfl rfl (by decide) (by decide) rfl rfl ?_
            refine aw_goto (npc := 28) dX1_isWord_63 (by decide) ?_
            refine aw_iload_n (npc := 29) rfl dX1_isWord_28 rfl ?_
            refine aw_aload_n (npc := 30) rfl dX1_isWord_29 rfl ?_
            refine aw_callVS (npc := 33) (N := mJ0_length_8abf5) (i := 0) (mc := 0) (ms := 0) (A := []) (S := [.int 3]) (L0 := [some (.ref (1000002 + 0))]) dX1_isWord_30 rfl km_J0_length_8abf5 kk_X1_83 (by omega) rfl rfl ⟨rfl, by decide⟩ rfl (Nat.le_of_ble_eq_true rfl) (Nat.zero_add _) (Nat.zero_add _) rfl ?_
            refine c_slen (i := 0) (by omega) ?_
            refine aw_re (S' := [.int 4, .int 3]) rfl ?_
            refine aw_icmp_ge (npc := 36) (tgt := 66) dX1_isWord_33 rfl (by decide) (fun hc => absurd hc (by decide)) (fun _ => ?_)
            refine aw_aload_n (npc := 37) rfl dX1_isWord_36 rfl ?_
            refine aw_get (npc := 40) dX1_isWord_37 rfl kf_X1_12 Rd8u.1 rfl ?_
            refine aw_get (npc := 43) dX1_isWord_40 rfl kf_X1_76 Rd8u.2.1 rfl ?_
            refine aw_aload_n (npc := 44) rfl dX1_isWord_43 rfl ?_
            refine aw_get (npc := 47) dX1_isWord_44 rfl kf_X1_25 Rd8u.1 rfl ?_
            refine aw_top (y := nI ρ.1.2.1) (m3_8) ?_
            refine aw_iload_n (npc := 48) rfl dX1_isWord_47 rfl ?_
            refine aw_iaddV (npc := 49) (v := nI (ρ.1.2.1 + 3)) dX1_isWord_48 rfl (nI_add _ 3) ?_
            refine aw_iald (npc := 50) (x := tp (ρ.1.2.1 + 3)) (j := (ρ.1.2.1 + 3)) dX1_isWord_49 rfl Rd8u.2.2.1 (am_ix_nI (by omega)) (tl_at (by omega)) ?_
            refine aw_aload_n (npc := 51) rfl dX1_isWord_50 rfl ?_
            refine aw_iload_n (npc := 52) rfl dX1_isWord_51 rfl ?_
            refine aw_callVS (npc := 55) (N := mJ0_charAt_5068e) (i := 0) (mc := 0) (ms := 0) (A := [.int 3]) (S := [.int (tp (ρ.1.2.1 + 3))]) (L0 := [some (.ref (1000002 + 0)), some (.int 3)]) dX1_isWord_52 rfl km_J0_charAt_5068e kk_X1_88 (by omega) rfl rfl ⟨rfl, by decide⟩ rfl (Nat.le_of_ble_eq_true rfl) (Nat.zero_add _) (Nat.zero_add _) rfl ?_
            refine c_sch (i := 0) (k := 3) (by omega) (by decide) ?_
            refine aw_re (S' := [.int (sch 0 3), .int (tp (ρ.1.2.1 + 3))]) rfl ?_
            refine aw_top (y := 101) (by decide) ?_
            refine aw_icmp_eq (npc := 58) (tgt := 60) dX1_isWord_55 rfl (by decide) (fun hc6 => ?_) (fun hc6 => ?_)
            · refine aw_iinc (npc := 63) (v := 4) (L' := [some (.ref 39), some (.ref (1000002 + 0)), some (.int 4)]) dX1_isWord_60 rfl rfl (by decide) (by decide) rfl rfl ?_
              refine aw_goto (npc := 28) dX1_isWord_63 (by decide) ?_
              refine aw_iload_n (npc := 29) rfl dX1_isWord_28 rfl ?_
              refine aw_aload_n (npc := 30) rfl dX1_isWord_29 rfl ?_
              refine aw_callVS (npc := 33) (N := mJ0_length_8abf5) (i := 0) (mc := 0) (ms := 0) (A := []) (S := [.int 4]) (L0 := [some (.ref (1000002 + 0))]) dX1_isWord_30 rfl km_J0_length_8abf5 kk_X1_83 (by omega) rfl rfl ⟨rfl, by decide⟩ rfl (Nat.le_of_ble_eq_true rfl) (Nat.zero_add _) (Nat.zero_add _) rfl ?_
              refine c_slen (i := 0) (by omega) ?_
              refine aw_re (S' := [.int 4, .int 4]) rfl ?_
              refine aw_icmp_ge (npc := 36) (tgt := 66) dX1_isWord_33 rfl (by decide) (fun _ => ?_) (fun hc => absurd (by decide) hc)
              refine aw_iconst (npc := 67) (v := 1) (by decide) dX1_isWord_66 rfl ?_
              refine aw_zret rfl rfl dX1_isWord_67 ?_
              exact k1 ⟨hc1N, by omega, hc3, hc4, hc5, hc6⟩
            · refine aw_iconst (npc := 59) (v := 0) (by decide) dX1_isWord_58 rfl ?_
              refine aw_zret rfl rfl dX1_isWord_59 ?_
              exact k0 (fun z => hc6 z.2.2.2.2.2)
          · refine aw_iconst (npc := 59) (v := 0) (by decide) dX1_isWord_58 rfl ?_
            refine aw_zret rfl rfl dX1_isWord_59 ?_
            exact k0 (fun z => hc5 z.2.2.2.2.1)
        · refine aw_iconst (npc := 59) (v := 0) (by decide) dX1_isWord_58 rfl ?_
          refine aw_zret rfl rfl dX1_isWord_59 ?_
          exact k0 (fun z => hc4 z.2.2.2.1)
      · refine aw_iconst (npc := 59) (v := 0) (by decide) dX1_isWord_58 rfl ?_
        refine aw_zret rfl rfl dX1_isWord_59 ?_
        exact k0 (fun z => hc3 z.2.2.1)
    · have hc2N : ¬ (ρ.1.2.2 - ρ.1.2.1) = 4 := fun z9q => hc2 ((nI_eq (a := (ρ.1.2.2 - ρ.1.2.1)) (b := 4) (by omega) (by omega)).mpr z9q)
      refine aw_iconst (npc := 25) (v := 0) (by decide) dX1_isWord_24 rfl ?_
      refine aw_zret rfl rfl dX1_isWord_25 ?_
      exact k0 (fun z => hc2N (by have z2 := z.2.1; omega))
set_option maxHeartbeats 4000000 in
set_option maxRecDepth 100000 in
theorem r_isWord1 {X : List Int32} {d rc rs n : Nat} {Q : am_Q} {h : am_H} {L : Nat} {tp : Nat → Int32} {ρ : RS} (H : RX ρ L tp h) (Wf : WR L tp ρ) (k1 : wz1 tp ρ → Q (some (.int 1)) n h) (k0 : ¬ wz1 tp ρ → Q (some (.int 0)) n h) : AW X mX1_isWord (d + 8) rc rs 0 [some (.ref 39), some (.ref (1000002 + 1)), none] [] n h Q := by
  obtain ⟨wk, w96, wcl, wob, wog, wft⟩ := id Wf
  have we := wk.1
  have wf := wk.2.1
  have wt := wk.2.2.1
  refine aw_aload_n (npc := 1) rfl dX1_isWord_0 rfl ?_
  obtain ⟨r9u, cd9u, Rd9u, m1_9, m2_9, m3_9, m4_9, m5_9, m7_9, m8_9, m9_9, m10_9, mc_9⟩ := id H
  refine aw_get (npc := 4) dX1_isWord_1 rfl kf_X1_22 Rd9u.1 rfl ?_
  refine aw_top (y := nI ρ.1.1) (m2_9) ?_
  refine aw_iconst (npc := 5) (v := 1) (by decide) dX1_isWord_4 rfl ?_
  refine aw_icmp_ne (npc := 8) (tgt := 24) dX1_isWord_5 rfl (by decide) (fun hc1 => ?_) (fun hc1 => ?_)
  · have hc1N : ¬ ρ.1.1 = 1 := fun z9q => hc1 ((nI_eq (a := ρ.1.1) (b := 1) (by omega) (by omega)).mpr z9q)
    refine aw_iconst (npc := 25) (v := 0) (by decide) dX1_isWord_24 rfl ?_
    refine aw_zret rfl rfl dX1_isWord_25 ?_
    exact k0 (fun z => hc1N z.1)
  · have hc1N := (nI_eq (a := ρ.1.1) (b := 1) (by omega) (by omega)).mp hc1
    refine aw_aload_n (npc := 9) rfl dX1_isWord_8 rfl ?_
    refine aw_get (npc := 12) dX1_isWord_9 rfl kf_X1_18 Rd9u.1 rfl ?_
    refine aw_top (y := nI ρ.1.2.2) (m1_9) ?_
    refine aw_aload_n (npc := 13) rfl dX1_isWord_12 rfl ?_
    refine aw_get (npc := 16) dX1_isWord_13 rfl kf_X1_25 Rd9u.1 rfl ?_
    refine aw_top (y := nI ρ.1.2.1) (m3_9) ?_
    refine aw_isubV (npc := 17) (v := nI (ρ.1.2.2 - ρ.1.2.1)) dX1_isWord_16 rfl (pk_sub (by omega)) ?_
    refine aw_aload_n (npc := 18) rfl dX1_isWord_17 rfl ?_
    refine aw_callVS (npc := 21) (N := mJ0_length_8abf5) (i := 1) (mc := 0) (ms := 0) (A := []) (S := [.int (nI (ρ.1.2.2 - ρ.1.2.1))]) (L0 := [some (.ref (1000002 + 1))]) dX1_isWord_18 rfl km_J0_length_8abf5 kk_X1_83 (by omega) rfl rfl ⟨rfl, by decide⟩ rfl (Nat.le_of_ble_eq_true rfl) (Nat.zero_add _) (Nat.zero_add _) rfl ?_
    refine c_slen (i := 1) (by omega) ?_
    refine aw_re (S' := [.int 3, .int (nI (ρ.1.2.2 - ρ.1.2.1))]) rfl ?_
    refine aw_icmp_eq (npc := 24) (tgt := 26) dX1_isWord_21 rfl (by decide) (fun hc2 => ?_) (fun hc2 => ?_)
    · have hc2N := (nI_eq (a := (ρ.1.2.2 - ρ.1.2.1)) (b := 3) (by omega) (by omega)).mp hc2
      refine aw_iconst (npc := 27) (v := 0) (by decide) dX1_isWord_26 rfl ?_
      refine aw_istore_n (npc := 28) (L' := [some (.ref 39), some (.ref (1000002 + 1)), some (.int 0)]) dX1_isWord_27 rfl (by decide) rfl rfl ?_
      refine aw_iload_n (npc := 29) rfl dX1_isWord_28 rfl ?_
      refine aw_aload_n (npc := 30) rfl dX1_isWord_29 rfl ?_
      refine aw_callVS (npc := 33) (N := mJ0_length_8abf5) (i := 1) (mc := 0) (ms := 0) (A := []) (S := [.int 0]) (L0 := [some (.ref (1000002 + 1))]) dX1_isWord_30 rfl km_J0_length_8abf5 kk_X1_83 (by omega) rfl rfl ⟨rfl, by decide⟩ rfl (Nat.le_of_ble_eq_true rfl) (Nat.zero_add _) (Nat.zero_add _) rfl ?_
      refine c_slen (i := 1) (by omega) ?_
      refine aw_re (S' := [.int 3, .int 0]) rfl ?_
      refine aw_icmp_ge (npc := 36) (tgt := 66) dX1_isWord_33 rfl (by decide) (fun hc => absurd hc (by decide)) (fun _ => ?_)
      refine aw_aload_n (npc := 37) rfl dX1_isWord_36 rfl ?_
      refine aw_get (npc := 40) dX1_isWord_37 rfl kf_X1_12 Rd9u.1 rfl ?_
      refine aw_get (npc := 43) dX1_isWord_40 rfl kf_X1_76 Rd9u.2.1 rfl ?_
      refine aw_aload_n (npc := 44) rfl dX1_isWord_43 rfl ?_
      refine aw_get (npc := 47) dX1_isWord_44 rfl kf_X1_25 Rd9u.1 rfl ?_
      refine aw_top (y := nI ρ.1.2.1) (m3_9) ?_
      refine aw_iload_n (npc := 48) rfl dX1_isWord_47 rfl ?_
      refine aw_iaddV (npc := 49) (v := nI (ρ.1.2.1 + 0)) dX1_isWord_48 rfl (nI_add _ 0) ?_
      refine aw_iald (npc := 50) (x := tp (ρ.1.2.1 + 0)) (j := (ρ.1.2.1 + 0)) dX1_isWord_49 rfl Rd9u.2.2.1 (am_ix_nI (by omega)) (tl_at (by omega)) ?_
      refine aw_aload_n (npc := 51) rfl dX1_isWord_50 rfl ?_
      refine aw_iload_n (npc := 52) rfl dX1_isWord_51 rfl ?_
      refine aw_callVS (npc := 55) (N := mJ0_charAt_5068e) (i := 1) (mc := 0) (ms := 0) (A := [.int 0]) (S := [.int (tp (ρ.1.2.1 + 0))]) (L0 := [some (.ref (1000002 + 1)), some (.int 0)]) dX1_isWord_52 rfl km_J0_charAt_5068e kk_X1_88 (by omega) rfl rfl ⟨rfl, by decide⟩ rfl (Nat.le_of_ble_eq_true rfl) (Nat.zero_add _) (Nat.zero_add _) rfl ?_
      refine c_sch (i := 1) (k := 0) (by omega) (by decide) ?_
      refine aw_re (S' := [.int (sch 1 0), .int (tp (ρ.1.2.1 + 0))]) rfl ?_
      refine aw_top (y := 102) (by decide) ?_
      refine aw_icmp_eq (npc := 58) (tgt := 60) dX1_isWord_55 rfl (by decide) (fun hc3 => ?_) (fun hc3 => ?_)
      · refine aw_iinc (npc := 63) (v := 1) (L' := [some (.ref 39), some (.ref (1000002 + 1)), some (.int 1)]) dX1_isWord_60 rfl rfl (by decide) (by decide) rfl rfl ?_
        refine aw_goto (npc := 28) dX1_isWord_63 (by decide) ?_
        refine aw_iload_n (npc := 29) rfl dX1_isWord_28 rfl ?_
        refine aw_aload_n (npc := 30) rfl dX1_isWord_29 rfl ?_
        refine aw_callVS (npc := 33) (N := mJ0_length_8abf5) (i := 1) (mc := 0) (ms := 0) (A := []) (S := [.int 1]) (L0 := [some (.ref (1000002 + 1))]) dX1_isWord_30 rfl km_J0_length_8abf5 kk_X1_83 (by omega) rfl rfl ⟨rfl, by decide⟩ rfl (Nat.le_of_ble_eq_true rfl) (Nat.zero_add _) (Nat.zero_add _) rfl ?_
        refine c_slen (i := 1) (by omega) ?_
        refine aw_re (S' := [.int 3, .int 1]) rfl ?_
        refine aw_icmp_ge (npc := 36) (tgt := 66) dX1_isWord_33 rfl (by decide) (fun hc => absurd hc (by decide)) (fun _ => ?_)
        refine aw_aload_n (npc := 37) rfl dX1_isWord_36 rfl ?_
        refine aw_get (npc := 40) dX1_isWord_37 rfl kf_X1_12 Rd9u.1 rfl ?_
        refine aw_get (npc := 43) dX1_isWord_40 rfl kf_X1_76 Rd9u.2.1 rfl ?_
        refine aw_aload_n (npc := 44) rfl dX1_isWord_43 rfl ?_
        refine aw_get (npc := 47) dX1_isWord_44 rfl kf_X1_25 Rd9u.1 rfl ?_
        refine aw_top (y := nI ρ.1.2.1) (m3_9) ?_
        refine aw_iload_n (npc := 48) rfl dX1_isWord_47 rfl ?_
        refine aw_iaddV (npc := 49) (v := nI (ρ.1.2.1 + 1)) dX1_isWord_48 rfl (nI_add _ 1) ?_
        refine aw_iald (npc := 50) (x := tp (ρ.1.2.1 + 1)) (j := (ρ.1.2.1 + 1)) dX1_isWord_49 rfl Rd9u.2.2.1 (am_ix_nI (by omega)) (tl_at (by omega)) ?_
        refine aw_aload_n (npc := 51) rfl dX1_isWord_50 rfl ?_
        refine aw_iload_n (npc := 52) rfl dX1_isWord_51 rfl ?_
        refine aw_callVS (npc := 55) (N := mJ0_charAt_5068e) (i := 1) (mc := 0) (ms := 0) (A := [.int 1]) (S := [.int (tp (ρ.1.2.1 + 1))]) (L0 := [some (.ref (1000002 + 1)), some (.int 1)]) dX1_isWord_52 rfl km_J0_charAt_5068e kk_X1_88 (by omega) rfl rfl ⟨rfl, by decide⟩ rfl (Nat.le_of_ble_eq_true rfl) (Nat.zero_add _) (Nat.zero_add _) rfl ?_
        refine c_sch (i := 1) (k := 1) (by omega) (by decide) ?_
        refine aw_re (S' := [.int (sch 1 1), .int (tp (ρ.1.2.1 + 1))]) rfl ?_
        refine aw_top (y := 101) (by decide) ?_
        refine aw_icmp_eq (npc := 58) (tgt := 60) dX1_isWord_55 rfl (by decide) (fun hc4 => ?_) (fun hc4 => ?_)
        · refine aw_iinc (npc := 63) (v := 2) (L' := [some (.ref 39), some (.ref (1000002 + 1)), some (.int 2)]) dX1_isWord_60 rfl rfl (by decide) (by decide) rfl rfl ?_
          refine aw_goto (npc := 28) dX1_isWord_63 (by decide) ?_
          refine aw_iload_n (npc := 29) rfl dX1_isWord_28 rfl ?_
          refine aw_aload_n (npc := 30) rfl dX1_isWord_29 rfl ?_
          refine aw_callVS (npc := 33) (N := mJ0_length_8abf5) (i := 1) (mc := 0) (ms := 0) (A := []) (S := [.int 2]) (L0 := [some (.ref (1000002 + 1))]) dX1_isWord_30 rfl km_J0_length_8abf5 kk_X1_83 (by omega) rfl rfl ⟨rfl, by decide⟩ rfl (Nat.le_of_ble_eq_true rfl) (Nat.zero_add _) (Nat.zero_add _) rfl ?_
          refine c_slen (i := 1) (by omega) ?_
          refine aw_re (S' := [.int 3, .int 2]) rfl ?_
          refine aw_icmp_ge (npc := 36) (tgt := 66) dX1_isWord_33 rfl (by decide) (fun hc => absurd hc (by decide)) (fun _ => ?_)
          refine aw_aload_n (npc := 37) rfl dX1_isWord_36 rfl ?_
          refine aw_get (npc := 40) dX1_isWord_37 rfl kf_X1_12 Rd9u.1 rfl ?_
          refine aw_get (npc := 43) dX1_isWord_40 rfl kf_X1_76 Rd9u.2.1 rfl ?_
          refine aw_aload_n (npc := 44) rfl dX1_isWord_43 rfl ?_
          refine aw_get (npc := 47) dX1_isWord_44 rfl kf_X1_25 Rd9u.1 rfl ?_
          refine aw_top (y := nI ρ.1.2.1) (m3_9) ?_
          refine aw_iload_n (npc := 48) rfl dX1_isWord_47 rfl ?_
          refine aw_iaddV (npc := 49) (v := nI (ρ.1.2.1 + 2)) dX1_isWord_48 rfl (nI_add _ 2) ?_
          refine aw_iald (npc := 50) (x := tp (ρ.1.2.1 + 2)) (j := (ρ.1.2.1 + 2)) dX1_isWord_49 rfl Rd9u.2.2.1 (am_ix_nI (by omega)) (tl_at (by omega)) ?_
          refine aw_aload_n (npc := 51) rfl dX1_isWord_50 rfl ?_
          refine aw_iload_n (npc := 52) rfl dX1_isWord_51 rfl ?_
          refine aw_callVS (npc := 55) (N := mJ0_charAt_5068e) (i := 1) (mc := 0) (ms := 0) (A := [.int 2]) (S := [.int (tp (ρ.1.2.1 + 2))]) (L0 := [some (.ref (1000002 + 1)), some (.int 2)]) dX1_isWord_52 rfl km_J0_charAt_5068e kk_X1_88 (by omega) rfl rfl ⟨rfl, by decide⟩ rfl (Nat.le_of_ble_eq_true rfl) (Nat.zero_add _) (Nat.zero_add _) rfl ?_
          refine c_sch (i := 1) (k := 2) (by omega) (by decide) ?_
          refine aw_re (S' := [.int (sch 1 2), .int (tp (ρ.1.2.1 + 2))]) rfl ?_
          refine aw_top (y := 101) (by decide) ?_
          refine aw_icmp_eq (npc := 58) (tgt := 60) dX1_isWord_55 rfl (by decide) (fun hc5 => ?_) (fun hc5 => ?_)
          · refine aw_iinc (npc := 63) (v := 3) (L' := [some (.ref 39), some (.ref (1000002 + 1)), some (.int 3)]) dX1_isWord_60 rfl rfl (by decide) (by decide) rfl rfl ?_
            refine aw_goto (npc := 28) dX1_isWord_63 (by decide) ?_
            refine aw_iload_n (npc := 29) rfl dX1_isWord_28 rfl ?_
            refine aw_aload_n (npc := 30) rfl dX1_isWord_29 rfl ?_
            refine aw_callVS (npc := 33) (N := mJ0_length_8abf5) (i := 1) (mc := 0) (ms := 0) (A := []) (S := [.int 3]) (L0 := [some (.ref (1000002 + 1))]) dX1_isWord_30 rfl km_J0_length_8abf5 kk_X1_83 (by omega) rfl rfl ⟨rfl, by decide⟩ rfl (Nat.le_of_ble_eq_true rfl) (Nat.zero_add _) (Nat.zero_add _) rfl ?_
            refine c_slen (i := 1) (by omega) ?_
            refine aw_re (S' := [.int 3, .int 3]) rfl ?_
            refine aw_icmp_ge (npc := 36) (tgt := 66) dX1_isWord_33 rfl (by decide) (fun _ => ?_) (fun hc => absurd (by decide) hc)
            refine aw_iconst (npc := 67) (v := 1) (by decide) dX1_isWord_66 rfl ?_
            refine aw_zret rfl rfl dX1_isWord_67 ?_
            exact k1 ⟨hc1N, by omega, hc3, hc4, hc5⟩
          · refine aw_iconst (npc := 59) (v := 0) (by decide) dX1_isWord_58 rfl ?_
            refine aw_zret rfl rfl dX1_isWord_59 ?_
            exact k0 (fun z => hc5 z.2.2.2.2)
        · refine aw_iconst (npc := 59) (v := 0) (by decide) dX1_isWord_58 rfl ?_
          refine aw_zret rfl rfl dX1_isWord_59 ?_
          exact k0 (fun z => hc4 z.2.2.2.1)
      · refine aw_iconst (npc := 59) (v := 0) (by decide) dX1_isWord_58 rfl ?_
        refine aw_zret rfl rfl dX1_isWord_59 ?_
        exact k0 (fun z => hc3 z.2.2.1)
    · have hc2N : ¬ (ρ.1.2.2 - ρ.1.2.1) = 3 := fun z9q => hc2 ((nI_eq (a := (ρ.1.2.2 - ρ.1.2.1)) (b := 3) (by omega) (by omega)).mpr z9q)
      refine aw_iconst (npc := 25) (v := 0) (by decide) dX1_isWord_24 rfl ?_
      refine aw_zret rfl rfl dX1_isWord_25 ?_
      exact k0 (fun z => hc2N (by have z2 := z.2.1; omega))
set_option maxHeartbeats 4000000 in
set_option maxRecDepth 100000 in
theorem r_isWord2 {X : List Int32} {d rc rs n : Nat} {Q : am_Q} {h : am_H} {L : Nat} {tp : Nat → Int32} {ρ : RS} (H : RX ρ L tp h) (Wf : WR L tp ρ) (k1 : wz2 tp ρ → Q (some (.int 1)) n h) (k0 : ¬ wz2 tp ρ → Q (some (.int 0)) n h) : AW X mX1_isWord (d + 8) rc rs 0 [some (.ref 39), some (.ref (1000002 + 2)), none] [] n h Q := by
  obtain ⟨wk, w96, wcl, wob, wog, wft⟩ := id Wf
  have we := wk.1
  have wf := wk.2.1
  have wt := wk.2.2.1
  refine aw_aload_n (npc := 1) rfl dX1_isWord_0 rfl ?_
  obtain ⟨r10u, cd10u, Rd10u, m1_10, m2_10, m3_10, m4_10, m5_10, m7_10, m8_10, m9_10, m10_10, mc_10⟩ := id H
  refine aw_get (npc := 4) dX1_isWord_1 rfl kf_X1_22 Rd10u.1 rfl ?_
  refine aw_top (y := nI ρ.1.1) (m2_10) ?_
  refine aw_iconst (npc := 5) (v := 1) (by decide) dX1_isWord_4 rfl ?_
  refine aw_icmp_ne (npc := 8) (tgt := 24) dX1_isWord_5 rfl (by decide) (fun hc1 => ?_) (fun hc1 => ?_)
  · have hc1N : ¬ ρ.1.1 = 1 := fun z9q => hc1 ((nI_eq (a := ρ.1.1) (b := 1) (by omega) (by omega)).mpr z9q)
    refine aw_iconst (npc := 25) (v := 0) (by decide) dX1_isWord_24 rfl ?_
    refine aw_zret rfl rfl dX1_isWord_25 ?_
    exact k0 (fun z => hc1N z.1)
  · have hc1N := (nI_eq (a := ρ.1.1) (b := 1) (by omega) (by omega)).mp hc1
    refine aw_aload_n (npc := 9) rfl dX1_isWord_8 rfl ?_
    refine aw_get (npc := 12) dX1_isWord_9 rfl kf_X1_18 Rd10u.1 rfl ?_
    refine aw_top (y := nI ρ.1.2.2) (m1_10) ?_
    refine aw_aload_n (npc := 13) rfl dX1_isWord_12 rfl ?_
    refine aw_get (npc := 16) dX1_isWord_13 rfl kf_X1_25 Rd10u.1 rfl ?_
    refine aw_top (y := nI ρ.1.2.1) (m3_10) ?_
    refine aw_isubV (npc := 17) (v := nI (ρ.1.2.2 - ρ.1.2.1)) dX1_isWord_16 rfl (pk_sub (by omega)) ?_
    refine aw_aload_n (npc := 18) rfl dX1_isWord_17 rfl ?_
    refine aw_callVS (npc := 21) (N := mJ0_length_8abf5) (i := 2) (mc := 0) (ms := 0) (A := []) (S := [.int (nI (ρ.1.2.2 - ρ.1.2.1))]) (L0 := [some (.ref (1000002 + 2))]) dX1_isWord_18 rfl km_J0_length_8abf5 kk_X1_83 (by omega) rfl rfl ⟨rfl, by decide⟩ rfl (Nat.le_of_ble_eq_true rfl) (Nat.zero_add _) (Nat.zero_add _) rfl ?_
    refine c_slen (i := 2) (by omega) ?_
    refine aw_re (S' := [.int 4, .int (nI (ρ.1.2.2 - ρ.1.2.1))]) rfl ?_
    refine aw_icmp_eq (npc := 24) (tgt := 26) dX1_isWord_21 rfl (by decide) (fun hc2 => ?_) (fun hc2 => ?_)
    · have hc2N := (nI_eq (a := (ρ.1.2.2 - ρ.1.2.1)) (b := 4) (by omega) (by omega)).mp hc2
      refine aw_iconst (npc := 27) (v := 0) (by decide) dX1_isWord_26 rfl ?_
      refine aw_istore_n (npc := 28) (L' := [some (.ref 39), some (.ref (1000002 + 2)), some (.int 0)]) dX1_isWord_27 rfl (by decide) rfl rfl ?_
      refine aw_iload_n (npc := 29) rfl dX1_isWord_28 rfl ?_
      refine aw_aload_n (npc := 30) rfl dX1_isWord_29 rfl ?_
      refine aw_callVS (npc := 33) (N := mJ0_length_8abf5) (i := 2) (mc := 0) (ms := 0) (A := []) (S := [.int 0]) (L0 := [some (.ref (1000002 + 2))]) dX1_isWord_30 rfl km_J0_length_8abf5 kk_X1_83 (by omega) rfl rfl ⟨rfl, by decide⟩ rfl (Nat.le_of_ble_eq_true rfl) (Nat.zero_add _) (Nat.zero_add _) rfl ?_
      refine c_slen (i := 2) (by omega) ?_
      refine aw_re (S' := [.int 4, .int 0]) rfl ?_
      refine aw_icmp_ge (npc := 36) (tgt := 66) dX1_isWord_33 rfl (by decide) (fun hc => absurd hc (by decide)) (fun _ => ?_)
      refine aw_aload_n (npc := 37) rfl dX1_isWord_36 rfl ?_
      refine aw_get (npc := 40) dX1_isWord_37 rfl kf_X1_12 Rd10u.1 rfl ?_
      refine aw_get (npc := 43) dX1_isWord_40 rfl kf_X1_76 Rd10u.2.1 rfl ?_
      refine aw_aload_n (npc := 44) rfl dX1_isWord_43 rfl ?_
      refine aw_get (npc := 47) dX1_isWord_44 rfl kf_X1_25 Rd10u.1 rfl ?_
      refine aw_top (y := nI ρ.1.2.1) (m3_10) ?_
      refine aw_iload_n (npc := 48) rfl dX1_isWord_47 rfl ?_
      refine aw_iaddV (npc := 49) (v := nI (ρ.1.2.1 + 0)) dX1_isWord_48 rfl (nI_add _ 0) ?_
      refine aw_iald (npc := 50) (x := tp (ρ.1.2.1 + 0)) (j := (ρ.1.2.1 + 0)) dX1_isWord_49 rfl Rd10u.2.2.1 (am_ix_nI (by omega)) (tl_at (by omega)) ?_
      refine aw_aload_n (npc := 51) rfl dX1_isWord_50 rfl ?_
      refine aw_iload_n (npc := 52) rfl dX1_isWord_51 rfl ?_
      refine aw_callVS (npc := 55) (N := mJ0_charAt_5068e) (i := 2) (mc := 0) (ms := 0) (A := [.int 0]) (S := [.int (tp (ρ.1.2.1 + 0))]) (L0 := [some (.ref (1000002 + 2)), some (.int 0)]) dX1_isWord_52 rfl km_J0_charAt_5068e kk_X1_88 (by omega) rfl rfl ⟨rfl, by decide⟩ rfl (Nat.le_of_ble_eq_true rfl) (Nat.zero_add _) (Nat.zero_add _) rfl ?_
      refine c_sch (i := 2) (k := 0) (by omega) (by decide) ?_
      refine aw_re (S' := [.int (sch 2 0), .int (tp (ρ.1.2.1 + 0))]) rfl ?_
      refine aw_top (y := 102) (by decide) ?_
      refine aw_icmp_eq (npc := 58) (tgt := 60) dX1_isWord_55 rfl (by decide) (fun hc3 => ?_) (fun hc3 => ?_)
      · refine aw_iinc (npc := 63) (v := 1) (L' := [some (.ref 39), some (.ref (1000002 + 2)), some (.int 1)]) dX1_isWord_60 rfl rfl (by decide) (by decide) rfl rfl ?_
        refine aw_goto (npc := 28) dX1_isWord_63 (by decide) ?_
        refine aw_iload_n (npc := 29) rfl dX1_isWord_28 rfl ?_
        refine aw_aload_n (npc := 30) rfl dX1_isWord_29 rfl ?_
        refine aw_callVS (npc := 33) (N := mJ0_length_8abf5) (i := 2) (mc := 0) (ms := 0) (A := []) (S := [.int 1]) (L0 := [some (.ref (1000002 + 2))]) dX1_isWord_30 rfl km_J0_length_8abf5 kk_X1_83 (by omega) rfl rfl ⟨rfl, by decide⟩ rfl (Nat.le_of_ble_eq_true rfl) (Nat.zero_add _) (Nat.zero_add _) rfl ?_
        refine c_slen (i := 2) (by omega) ?_
        refine aw_re (S' := [.int 4, .int 1]) rfl ?_
        refine aw_icmp_ge (npc := 36) (tgt := 66) dX1_isWord_33 rfl (by decide) (fun hc => absurd hc (by decide)) (fun _ => ?_)
        refine aw_aload_n (npc := 37) rfl dX1_isWord_36 rfl ?_
        refine aw_get (npc := 40) dX1_isWord_37 rfl kf_X1_12 Rd10u.1 rfl ?_
        refine aw_get (npc := 43) dX1_isWord_40 rfl kf_X1_76 Rd10u.2.1 rfl ?_
        refine aw_aload_n (npc := 44) rfl dX1_isWord_43 rfl ?_
        refine aw_get (npc := 47) dX1_isWord_44 rfl kf_X1_25 Rd10u.1 rfl ?_
        refine aw_top (y := nI ρ.1.2.1) (m3_10) ?_
        refine aw_iload_n (npc := 48) rfl dX1_isWord_47 rfl ?_
        refine aw_iaddV (npc := 49) (v := nI (ρ.1.2.1 + 1)) dX1_isWord_48 rfl (nI_add _ 1) ?_
        refine aw_iald (npc := 50) (x := tp (ρ.1.2.1 + 1)) (j := (ρ.1.2.1 + 1)) dX1_isWord_49 rfl Rd10u.2.2.1 (am_ix_nI (by omega)) (tl_at (by omega)) ?_
        refine aw_aload_n (npc := 51) rfl dX1_isWord_50 rfl ?_
        refine aw_iload_n (npc := 52) rfl dX1_isWord_51 rfl ?_
        refine aw_callVS (npc := 55) (N := mJ0_charAt_5068e) (i := 2) (mc := 0) (ms := 0) (A := [.int 1]) (S := [.int (tp (ρ.1.2.1 + 1))]) (L0 := [some (.ref (1000002 + 2)), some (.int 1)]) dX1_isWord_52 rfl km_J0_charAt_5068e kk_X1_88 (by omega) rfl rfl ⟨rfl, by decide⟩ rfl (Nat.le_of_ble_eq_true rfl) (Nat.zero_add _) (Nat.zero_add _) rfl ?_
        refine c_sch (i := 2) (k := 1) (by omega) (by decide) ?_
        refine aw_re (S' := [.int (sch 2 1), .int (tp (ρ.1.2.1 + 1))]) rfl ?_
        refine aw_top (y := 105) (by decide) ?_
        refine aw_icmp_eq (npc := 58) (tgt := 60) dX1_isWord_55 rfl (by decide) (fun hc4 => ?_) (fun hc4 => ?_)
        · refine aw_iinc (npc := 63) (v := 2) (L' := [some (.ref 39), some (.ref (1000002 + 2)), some (.int 2)]) dX1_isWord_60 rfl rfl (by decide) (by decide) rfl rfl ?_
          refine aw_goto (npc := 28) dX1_isWord_63 (by decide) ?_
          refine aw_iload_n (npc := 29) rfl dX1_isWord_28 rfl ?_
          refine aw_aload_n (npc := 30) rfl dX1_isWord_29 rfl ?_
          refine aw_callVS (npc := 33) (N := mJ0_length_8abf5) (i := 2) (mc := 0) (ms := 0) (A := []) (S := [.int 2]) (L0 := [some (.ref (1000002 + 2))]) dX1_isWord_30 rfl km_J0_length_8abf5 kk_X1_83 (by omega) rfl rfl ⟨rfl, by decide⟩ rfl (Nat.le_of_ble_eq_true rfl) (Nat.zero_add _) (Nat.zero_add _) rfl ?_
          refine c_slen (i := 2) (by omega) ?_
          refine aw_re (S' := [.int 4, .int 2]) rfl ?_
          refine aw_icmp_ge (npc := 36) (tgt := 66) dX1_isWord_33 rfl (by decide) (fun hc => absurd hc (by decide)) (fun _ => ?_)
          refine aw_aload_n (npc := 37) rfl dX1_isWord_36 rfl ?_
          refine aw_get (npc := 40) dX1_isWord_37 rfl kf_X1_12 Rd10u.1 rfl ?_
          refine aw_get (npc := 43) dX1_isWord_40 rfl kf_X1_76 Rd10u.2.1 rfl ?_
          refine aw_aload_n (npc := 44) rfl dX1_isWord_43 rfl ?_
          refine aw_get (npc := 47) dX1_isWord_44 rfl kf_X1_25 Rd10u.1 rfl ?_
          refine aw_top (y := nI ρ.1.2.1) (m3_10) ?_
          refine aw_iload_n (npc := 48) rfl dX1_isWord_47 rfl ?_
          refine aw_iaddV (npc := 49) (v := nI (ρ.1.2.1 + 2)) dX1_isWord_48 rfl (nI_add _ 2) ?_
          refine aw_iald (npc := 50) (x := tp (ρ.1.2.1 + 2)) (j := (ρ.1.2.1 + 2)) dX1_isWord_49 rfl Rd10u.2.2.1 (am_ix_nI (by omega)) (tl_at (by omega)) ?_
          refine aw_aload_n (npc := 51) rfl dX1_isWord_50 rfl ?_
          refine aw_iload_n (npc := 52) rfl dX1_isWord_51 rfl ?_
          refine aw_callVS (npc := 55) (N := mJ0_charAt_5068e) (i := 2) (mc := 0) (ms := 0) (A := [.int 2]) (S := [.int (tp (ρ.1.2.1 + 2))]) (L0 := [some (.ref (1000002 + 2)), some (.int 2)]) dX1_isWord_52 rfl km_J0_charAt_5068e kk_X1_88 (by omega) rfl rfl ⟨rfl, by decide⟩ rfl (Nat.le_of_ble_eq_true rfl) (Nat.zero_add _) (Nat.zero_add _) rfl ?_
          refine c_sch (i := 2) (k := 2) (by omega) (by decide) ?_
          refine aw_re (S' := [.int (sch 2 2), .int (tp (ρ.1.2.1 + 2))]) rfl ?_
          refine aw_top (y := 110) (by decide) ?_
          refine aw_icmp_eq (npc := 58) (tgt := 60) dX1_isWord_55 rfl (by decide) (fun hc5 => ?_) (fun hc5 => ?_)
          · refine aw_iinc (npc := 63) (v := 3) (L' := [some (.ref 39), some (.ref (1000002 + 2)), some (.int 3)]) dX1_isWord_60 rfl rfl (by decide) (by decide) rfl rfl ?_
            refine aw_goto (npc := 28) dX1_isWord_63 (by decide) ?_
            refine aw_iload_n (npc := 29) rfl dX1_isWord_28 rfl ?_
            refine aw_aload_n (npc := 30) rfl dX1_isWord_29 rfl ?_
            refine aw_callVS (npc := 33) (N := mJ0_length_8abf5) (i := 2) (mc := 0) (ms := 0) (A := []) (S := [.int 3]) (L0 := [some (.ref (1000002 + 2))]) dX1_isWord_30 rfl km_J0_length_8abf5 kk_X1_83 (by omega) rfl rfl ⟨rfl, by decide⟩ rfl (Nat.le_of_ble_eq_true rfl) (Nat.zero_add _) (Nat.zero_add _) rfl ?_
            refine c_slen (i := 2) (by omega) ?_
            refine aw_re (S' := [.int 4, .int 3]) rfl ?_
            refine aw_icmp_ge (npc := 36) (tgt := 66) dX1_isWord_33 rfl (by decide) (fun hc => absurd hc (by decide)) (fun _ => ?_)
            refine aw_aload_n (npc := 37) rfl dX1_isWord_36 rfl ?_
            refine aw_get (npc := 40) dX1_isWord_37 rfl kf_X1_12 Rd10u.1 rfl ?_
            refine aw_get (npc := 43) dX1_isWord_40 rfl kf_X1_76 Rd10u.2.1 rfl ?_
            refine aw_aload_n (npc := 44) rfl dX1_isWord_43 rfl ?_
            refine aw_get (npc := 47) dX1_isWord_44 rfl kf_X1_25 Rd10u.1 rfl ?_
            refine aw_top (y := nI ρ.1.2.1) (m3_10) ?_
            refine aw_iload_n (npc := 48) rfl dX1_isWord_47 rfl ?_
            refine aw_iaddV (npc := 49) (v := nI (ρ.1.2.1 + 3)) dX1_isWord_48 rfl (nI_add _ 3) ?_
            refine aw_iald (npc := 50) (x := tp (ρ.1.2.1 + 3)) (j := (ρ.1.2.1 + 3)) dX1_isWord_49 rfl Rd10u.2.2.1 (am_ix_nI (by omega)) (tl_at (by omega)) ?_
            refine aw_aload_n (npc := 51) rfl dX1_isWord_50 rfl ?_
            refine aw_iload_n (npc := 52) rfl dX1_isWord_51 rfl ?_
            refine aw_callVS (npc := 55) (N := mJ0_charAt_5068e) (i := 2) (mc := 0) (ms := 0) (A := [.int 3]) (S := [.int (tp (ρ.1.2.1 + 3))]) (L0 := [some (.ref (1000002 + 2)), some (.int 3)]) dX1_isWord_52 rfl km_J0_charAt_5068e kk_X1_88 (by omega) rfl rfl ⟨rfl, by decide⟩ rfl (Nat.le_of_ble_eq_true rfl) (Nat.zero_add _) (Nat.zero_add _) rfl ?_
            refine c_sch (i := 2) (k := 3) (by omega) (by decide) ?_
            refine aw_re (S' := [.int (sch 2 3), .int (tp (ρ.1.2.1 + 3))]) rfl ?_
            refine aw_top (y := 101) (by decide) ?_
            refine aw_icmp_eq (npc := 58) (tgt := 60) dX1_isWord_55 rfl (by decide) (fun hc6 => ?_) (fun hc6 => ?_)
            · refine aw_iinc (npc := 63) (v := 4) (L' := [some (.ref 39), some (.ref (1000002 + 2)), some (.int 4)]) dX1_isWord_60 rfl rfl (by decide) (by decide) rfl rfl ?_
              refine aw_goto (npc := 28) dX1_isWord_63 (by decide) ?_
              refine aw_iload_n (npc := 29) rfl dX1_isWord_28 rfl ?_
              refine aw_aload_n (npc := 30) rfl dX1_isWord_29 rfl ?_
              refine aw_callVS (npc := 33) (N := mJ0_length_8abf5) (i := 2) (mc := 0) (ms := 0) (A := []) (S := [.int 4]) (L0 := [some (.ref (1000002 + 2))]) dX1_isWord_30 rfl km_J0_length_8abf5 kk_X1_83 (by omega) rfl rfl ⟨rfl, by decide⟩ rfl (Nat.le_of_ble_eq_true rfl) (Nat.zero_add _) (Nat.zero_add _) rfl ?_
              refine c_slen (i := 2) (by omega) ?_
              refine aw_re (S' := [.int 4, .int 4]) rfl ?_
              refine aw_icmp_ge (npc := 36) (tgt := 66) dX1_isWord_33 rfl (by decide) (fun _ => ?_) (fun hc => absurd (by decide) hc)
              refine aw_iconst (npc := 67) (v := 1) (by decide) dX1_isWord_66 rfl ?_
              refine aw_zret rfl rfl dX1_isWord_67 ?_
              exact k1 ⟨hc1N, by omega, hc3, hc4, hc5, hc6⟩
            · refine aw_iconst (npc := 59) (v := 0) (by decide) dX1_isWord_58 rfl ?_
              refine aw_zret rfl rfl dX1_isWord_59 ?_
              exact k0 (fun z => hc6 z.2.2.2.2.2)
          · refine aw_iconst (npc := 59) (v := 0) (by decide) dX1_isWord_58 rfl ?_
            refine aw_zret rfl rfl dX1_isWord_59 ?_
            exact k0 (fun z => hc5 z.2.2.2.2.1)
        · refine aw_iconst (npc := 59) (v := 0) (by decide) dX1_isWord_58 rfl ?_
          refine aw_zret rfl rfl dX1_isWord_59 ?_
          exact k0 (fun z => hc4 z.2.2.2.1)
      · refine aw_iconst (npc := 59) (v := 0) (by decide) dX1_isWord_58 rfl ?_
        refine aw_zret rfl rfl dX1_isWord_59 ?_
        exact k0 (fun z => hc3 z.2.2.1)
    · have hc2N : ¬ (ρ.1.2.2 - ρ.1.2.1) = 4 := fun z9q => hc2 ((nI_eq (a := (ρ.1.2.2 - ρ.1.2.1)) (b := 4) (by omega) (by omega)).mpr z9q)
      refine aw_iconst (npc := 25) (v := 0) (by decide) dX1_isWord_24 rfl ?_
      refine aw_zret rfl rfl dX1_isWord_25 ?_
      exact k0 (fun z => hc2N (by have z2 := z.2.1; omega))
def kyF (ρ : RS) (k : Int32) : RS := (ρ.1, ρ.2.1, k, ρ.2.2.2)
noncomputable def rkF (L : Nat) (tp : Nat → Int32) (ρ : RS) : RS := cI (wz0 tp ρ) (avF L tp (kyF ρ 0)) (cI (wz1 tp ρ) (avF L tp (kyF ρ 1)) (cI (wz2 tp ρ) (avF L tp (kyF ρ 2)) (flF ρ)))
theorem rx_c {ρ ρ' : RS} {L : Nat} {tp : Nat → Int32} {h : am_H} (e : ρ = ρ') (H : RX ρ L tp h) : RX ρ' L tp h := by
  subst e; exact H
set_option maxHeartbeats 4000000 in
set_option maxRecDepth 100000 in
theorem r_key {X : List Int32} {d rc rs n : Nat} {Q : am_Q} {h : am_H} {L : Nat} {tp : Nat → Int32} {ρ : RS} (H : RX ρ L tp h) (Wf : WR L tp ρ) (hq : ∀ h9, RX (rkF L tp ρ) L tp h9 → am_fp (fun k => k < 39 ∨ 43 ≤ k) h9 h → Q none n h9) : AW X mX1_readKey (d + 9) rc rs 0 [some (.ref 39)] [] n h Q := by
  obtain ⟨wk, w96, wcl, wob, wog, wft⟩ := id Wf
  have we := wk.1
  have wf := wk.2.1
  have wt := wk.2.2.1
  refine aw_aload_n (npc := 1) rfl dX1_readKey_0 rfl ?_
  refine aw_ldcS (npc := 3) (i := 0) dX1_readKey_1 rfl rfl rfl ?_
  obtain ⟨r11u, cd11u, Rd11u, m1_11, m2_11, m3_11, m4_11, m5_11, m7_11, m8_11, m9_11, m10_11, mc_11⟩ := id H
  refine aw_callV (npc := 6) (N := mX1_isWord) (b := 39) (mc := 0) (ms := 0) (A := [.ref (1000002 + 0)]) (S := []) (L0 := [some (.ref 39), some (.ref (1000002 + 0)), none]) dX1_readKey_3 rfl km_X1_isWord kk_X1_94 Rd11u.1 ⟨by decide, rfl⟩ rfl ⟨rfl, by decide⟩ rfl (Nat.le_of_ble_eq_true rfl) (Nat.zero_add _) (Nat.zero_add _) rfl ?_
  refine r_isWord0 H Wf (fun hw1 => ?_) (fun hw1 => ?_)
  · refine aw_re (S' := [.int 1]) rfl ?_
    refine aw_if_eq (npc := 9) (tgt := 17) dX1_readKey_6 rfl (by decide) (fun hc => absurd hc (by decide)) (fun _ => ?_)
    refine aw_aload_n (npc := 10) rfl dX1_readKey_9 rfl ?_
    refine aw_iconst (npc := 11) (v := 0) (by decide) dX1_readKey_10 rfl ?_
    refine aw_put (npc := 14) dX1_readKey_11 rfl kf_X1_31 Rd11u.1 (Nat.le_of_ble_eq_true rfl) (am_ok_int _) rfl ?_
    have Rd2 := rd_r5 (v := 0) Rd11u
    refine aw_goto (npc := 56) dX1_readKey_14 (by decide) ?_
    have Hp3 : RX (kyF ρ 0) L tp _ := ⟨_, _, Rd2, (((pk_un (by omega))).trans m1_11), (((pk_un (by omega))).trans m2_11), (((pk_un (by omega))).trans m3_11), (((pk_un (by omega))).trans m4_11), (pk_us), (((pk_un (by omega))).trans m7_11), (((pk_un (by omega))).trans m8_11), (((pk_un (by omega))).trans m9_11), (((pk_un (by omega))).trans m10_11), mc_11⟩
    have Wf4 : WR L tp (kyF ρ 0) := Wf
    refine aw_aload_n (npc := 57) rfl dX1_readKey_56 rfl ?_
    obtain ⟨r12u, cd12u, Rd12u, m1_12, m2_12, m3_12, m4_12, m5_12, m7_12, m8_12, m9_12, m10_12, mc_12⟩ := id Hp3
    refine aw_callV (npc := 60) (N := mX1_advance) (b := 39) (mc := 0) (ms := 0) (A := []) (S := []) (L0 := [some (.ref 39), none, none, none]) dX1_readKey_57 rfl km_X1_advance kk_X1_50 Rd12u.1 ⟨by decide, rfl⟩ rfl ⟨rfl, by decide⟩ rfl (Nat.le_of_ble_eq_true rfl) (Nat.zero_add _) (Nat.zero_add _) rfl ?_
    refine r_adv  Hp3 Wf4 (fun hp5 Hr6 fz7 => ?_)
    have fyfz7 : ∀ k, (k < 39 ∨ 43 ≤ k) → hp5 k = _ := fun k hk => fz7 k hk
    have Wf8 : WR L tp (avF L tp (kyF ρ 0)) := wr_av Wf4
    refine aw_vret rfl dX1_readKey_60 ?_
    exact hq _ (rx_c (by simp [rkF, cI, hw1]) Hr6) (am_fpT (fun k (hk : k < 39 ∨ 43 ≤ k) => fyfz7 k (by omega)) (am_fpU (show ¬ (39 < 39 ∨ 43 ≤ 39) by omega) am_fp0))
  · refine aw_re (S' := [.int 0]) rfl ?_
    refine aw_if_eq (npc := 9) (tgt := 17) dX1_readKey_6 rfl (by decide) (fun _ => ?_) (fun hc => absurd (by decide) hc)
    refine aw_aload_n (npc := 18) rfl dX1_readKey_17 rfl ?_
    refine aw_ldcS (npc := 20) (i := 1) dX1_readKey_18 rfl rfl rfl ?_
    refine aw_callV (npc := 23) (N := mX1_isWord) (b := 39) (mc := 0) (ms := 0) (A := [.ref (1000002 + 1)]) (S := []) (L0 := [some (.ref 39), some (.ref (1000002 + 1)), none]) dX1_readKey_20 rfl km_X1_isWord kk_X1_94 Rd11u.1 ⟨by decide, rfl⟩ rfl ⟨rfl, by decide⟩ rfl (Nat.le_of_ble_eq_true rfl) (Nat.zero_add _) (Nat.zero_add _) rfl ?_
    refine r_isWord1 H Wf (fun hw9 => ?_) (fun hw9 => ?_)
    · refine aw_re (S' := [.int 1]) rfl ?_
      refine aw_if_eq (npc := 26) (tgt := 34) dX1_readKey_23 rfl (by decide) (fun hc => absurd hc (by decide)) (fun _ => ?_)
      refine aw_aload_n (npc := 27) rfl dX1_readKey_26 rfl ?_
      refine aw_iconst (npc := 28) (v := 1) (by decide) dX1_readKey_27 rfl ?_
      refine aw_put (npc := 31) dX1_readKey_28 rfl kf_X1_31 Rd11u.1 (Nat.le_of_ble_eq_true rfl) (am_ok_int _) rfl ?_
      have Rd10 := rd_r5 (v := 1) Rd11u
      refine aw_goto (npc := 56) dX1_readKey_31 (by decide) ?_
      have Hp11 : RX (kyF ρ 1) L tp _ := ⟨_, _, Rd10, (((pk_un (by omega))).trans m1_11), (((pk_un (by omega))).trans m2_11), (((pk_un (by omega))).trans m3_11), (((pk_un (by omega))).trans m4_11), (pk_us), (((pk_un (by omega))).trans m7_11), (((pk_un (by omega))).trans m8_11), (((pk_un (by omega))).trans m9_11), (((pk_un (by omega))).trans m10_11), mc_11⟩
      have Wf12 : WR L tp (kyF ρ 1) := Wf
      refine aw_aload_n (npc := 57) rfl dX1_readKey_56 rfl ?_
      obtain ⟨r13u, cd13u, Rd13u, m1_13, m2_13, m3_13, m4_13, m5_13, m7_13, m8_13, m9_13, m10_13, mc_13⟩ := id Hp11
      refine aw_callV (npc := 60) (N := mX1_advance) (b := 39) (mc := 0) (ms := 0) (A := []) (S := []) (L0 := [some (.ref 39), none, none, none]) dX1_readKey_57 rfl km_X1_advance kk_X1_50 Rd13u.1 ⟨by decide, rfl⟩ rfl ⟨rfl, by decide⟩ rfl (Nat.le_of_ble_eq_true rfl) (Nat.zero_add _) (Nat.zero_add _) rfl ?_
      refine r_adv  Hp11 Wf12 (fun hp13 Hr14 fz15 => ?_)
      have fyfz15 : ∀ k, (k < 39 ∨ 43 ≤ k) → hp13 k = _ := fun k hk => fz15 k hk
      have Wf16 : WR L tp (avF L tp (kyF ρ 1)) := wr_av Wf12
      refine aw_vret rfl dX1_readKey_60 ?_
      exact hq _ (rx_c (by simp [rkF, cI, hw1, hw9]) Hr14) (am_fpT (fun k (hk : k < 39 ∨ 43 ≤ k) => fyfz15 k (by omega)) (am_fpU (show ¬ (39 < 39 ∨ 43 ≤ 39) by omega) am_fp0))
    · refine aw_re (S' := [.int 0]) rfl ?_
      refine aw_if_eq (npc := 26) (tgt := 34) dX1_readKey_23 rfl (by decide) (fun _ => ?_) (fun hc => absurd (by decide) hc)
      refine aw_aload_n (npc := 35) rfl dX1_readKey_34 rfl ?_
      refine aw_ldcS (npc := 37) (i := 2) dX1_readKey_35 rfl rfl rfl ?_
      refine aw_callV (npc := 40) (N := mX1_isWord) (b := 39) (mc := 0) (ms := 0) (A := [.ref (1000002 + 2)]) (S := []) (L0 := [some (.ref 39), some (.ref (1000002 + 2)), none]) dX1_readKey_37 rfl km_X1_isWord kk_X1_94 Rd11u.1 ⟨by decide, rfl⟩ rfl ⟨rfl, by decide⟩ rfl (Nat.le_of_ble_eq_true rfl) (Nat.zero_add _) (Nat.zero_add _) rfl ?_
      refine r_isWord2 H Wf (fun hw17 => ?_) (fun hw17 => ?_)
      · refine aw_re (S' := [.int 1]) rfl ?_
        refine aw_if_eq (npc := 43) (tgt := 51) dX1_readKey_40 rfl (by decide) (fun hc => absurd hc (by decide)) (fun _ => ?_)
        refine aw_aload_n (npc := 44) rfl dX1_readKey_43 rfl ?_
        refine aw_iconst (npc := 45) (v := 2) (by decide) dX1_readKey_44 rfl ?_
        refine aw_put (npc := 48) dX1_readKey_45 rfl kf_X1_31 Rd11u.1 (Nat.le_of_ble_eq_true rfl) (am_ok_int _) rfl ?_
        have Rd18 := rd_r5 (v := 2) Rd11u
        refine aw_goto (npc := 56) dX1_readKey_48 (by decide) ?_
        have Hp19 : RX (kyF ρ 2) L tp _ := ⟨_, _, Rd18, (((pk_un (by omega))).trans m1_11), (((pk_un (by omega))).trans m2_11), (((pk_un (by omega))).trans m3_11), (((pk_un (by omega))).trans m4_11), (pk_us), (((pk_un (by omega))).trans m7_11), (((pk_un (by omega))).trans m8_11), (((pk_un (by omega))).trans m9_11), (((pk_un (by omega))).trans m10_11), mc_11⟩
        have Wf20 : WR L tp (kyF ρ 2) := Wf
        refine aw_aload_n (npc := 57) rfl dX1_readKey_56 rfl ?_
        obtain ⟨r14u, cd14u, Rd14u, m1_14, m2_14, m3_14, m4_14, m5_14, m7_14, m8_14, m9_14, m10_14, mc_14⟩ := id Hp19
        refine aw_callV (npc := 60) (N := mX1_advance) (b := 39) (mc := 0) (ms := 0) (A := []) (S := []) (L0 := [some (.ref 39), none, none, none]) dX1_readKey_57 rfl km_X1_advance kk_X1_50 Rd14u.1 ⟨by decide, rfl⟩ rfl ⟨rfl, by decide⟩ rfl (Nat.le_of_ble_eq_true rfl) (Nat.zero_add _) (Nat.zero_add _) rfl ?_
        refine r_adv  Hp19 Wf20 (fun hp21 Hr22 fz23 => ?_)
        have fyfz23 : ∀ k, (k < 39 ∨ 43 ≤ k) → hp21 k = _ := fun k hk => fz23 k hk
        have Wf24 : WR L tp (avF L tp (kyF ρ 2)) := wr_av Wf20
        refine aw_vret rfl dX1_readKey_60 ?_
        exact hq _ (rx_c (by simp [rkF, cI, hw1, hw9, hw17]) Hr22) (am_fpT (fun k (hk : k < 39 ∨ 43 ≤ k) => fyfz23 k (by omega)) (am_fpU (show ¬ (39 < 39 ∨ 43 ≤ 39) by omega) am_fp0))
      · refine aw_re (S' := [.int 0]) rfl ?_
        refine aw_if_eq (npc := 43) (tgt := 51) dX1_readKey_40 rfl (by decide) (fun _ => ?_) (fun hc => absurd (by decide) hc)
        refine aw_aload_n (npc := 52) rfl dX1_readKey_51 rfl ?_
        refine aw_callV (npc := 55) (N := mX1_fail) (b := 39) (mc := 0) (ms := 0) (A := []) (S := []) (L0 := [some (.ref 39)]) dX1_readKey_52 rfl km_X1_fail kk_X1_59 Rd11u.1 ⟨by decide, rfl⟩ rfl ⟨rfl, by decide⟩ rfl (Nat.le_of_ble_eq_true rfl) (Nat.zero_add _) (Nat.zero_add _) rfl ?_
        refine r_fail  H Wf (fun hp25 Hr26 fz27 => ?_)
        have fyfz27 : ∀ k, (k < 39 ∨ 43 ≤ k) → hp25 k = _ := fun k hk => fz27 k hk
        have Wf28 : WR L tp (flF ρ) := wr_fl Wf
        refine aw_vret rfl dX1_readKey_55 ?_
        exact hq _ (rx_c (by simp [rkF, cI, hw1, hw9, hw17]) Hr26) (am_fpT (fun k (hk : k < 39 ∨ 43 ≤ k) => fyfz27 k (by omega)) am_fp0)
noncomputable def cbF (L : Nat) (tp : Nat → Int32) (ρ : RS) : RS := cI (isSg tp ρ 41) (avF L tp ρ) (flF ρ)
set_option maxHeartbeats 4000000 in
set_option maxRecDepth 100000 in
theorem r_close {X : List Int32} {d rc rs n : Nat} {Q : am_Q} {h : am_H} {L : Nat} {tp : Nat → Int32} {ρ : RS} (H : RX ρ L tp h) (Wf : WR L tp ρ) (hq : ∀ h9, RX (cbF L tp ρ) L tp h9 → am_fp (fun k => k < 39 ∨ 43 ≤ k) h9 h → Q none n h9) : AW X mX1_closeBracket (d + 6) rc rs 0 [some (.ref 39)] [] n h Q := by
  refine aw_aload_n (npc := 1) rfl dX1_closeBracket_0 rfl ?_
  refine aw_bipush (npc := 3) (v := 41) (by decide) dX1_closeBracket_1 rfl ?_
  obtain ⟨r15u, cd15u, Rd15u, m1_15, m2_15, m3_15, m4_15, m5_15, m7_15, m8_15, m9_15, m10_15, mc_15⟩ := id H
  refine aw_callV (npc := 6) (N := mX1_isSign) (b := 39) (mc := 0) (ms := 0) (A := [.int 41]) (S := []) (L0 := [some (.ref 39), some (.int 41)]) dX1_closeBracket_3 rfl km_X1_isSign kk_X1_105 Rd15u.1 ⟨by decide, rfl⟩ rfl ⟨rfl, by decide⟩ rfl (Nat.le_of_ble_eq_true rfl) (Nat.zero_add _) (Nat.zero_add _) rfl ?_
  refine r_isSign (c := 41) H Wf (fun hg1 => ?_) (fun hg1 => ?_)
  · refine aw_re (S' := [.int 1]) rfl ?_
    refine aw_if_eq (npc := 9) (tgt := 16) dX1_closeBracket_6 rfl (by decide) (fun hc => absurd hc (by decide)) (fun _ => ?_)
    refine aw_aload_n (npc := 10) rfl dX1_closeBracket_9 rfl ?_
    refine aw_callV (npc := 13) (N := mX1_advance) (b := 39) (mc := 0) (ms := 0) (A := []) (S := []) (L0 := [some (.ref 39), none, none, none]) dX1_closeBracket_10 rfl km_X1_advance kk_X1_50 Rd15u.1 ⟨by decide, rfl⟩ rfl ⟨rfl, by decide⟩ rfl (Nat.le_of_ble_eq_true rfl) (Nat.zero_add _) (Nat.zero_add _) rfl ?_
    refine r_adv  H Wf (fun hp2 Hr3 fz4 => ?_)
    have fyfz4 : ∀ k, (k < 39 ∨ 43 ≤ k) → hp2 k = _ := fun k hk => fz4 k hk
    have Wf5 : WR L tp (avF L tp ρ) := wr_av Wf
    refine aw_goto (npc := 20) dX1_closeBracket_13 (by decide) ?_
    refine aw_vret rfl dX1_closeBracket_20 ?_
    exact hq _ (rx_c (by simp [cbF, cI, hg1]) Hr3) (am_fpT (fun k (hk : k < 39 ∨ 43 ≤ k) => fyfz4 k (by omega)) am_fp0)
  · refine aw_re (S' := [.int 0]) rfl ?_
    refine aw_if_eq (npc := 9) (tgt := 16) dX1_closeBracket_6 rfl (by decide) (fun _ => ?_) (fun hc => absurd (by decide) hc)
    refine aw_aload_n (npc := 17) rfl dX1_closeBracket_16 rfl ?_
    refine aw_callV (npc := 20) (N := mX1_fail) (b := 39) (mc := 0) (ms := 0) (A := []) (S := []) (L0 := [some (.ref 39)]) dX1_closeBracket_17 rfl km_X1_fail kk_X1_59 Rd15u.1 ⟨by decide, rfl⟩ rfl ⟨rfl, by decide⟩ rfl (Nat.le_of_ble_eq_true rfl) (Nat.zero_add _) (Nat.zero_add _) rfl ?_
    refine r_fail  H Wf (fun hp6 Hr7 fz8 => ?_)
    have fyfz8 : ∀ k, (k < 39 ∨ 43 ≤ k) → hp6 k = _ := fun k hk => fz8 k hk
    have Wf9 : WR L tp (flF ρ) := wr_fl Wf
    refine aw_vret rfl dX1_closeBracket_20 ?_
    exact hq _ (rx_c (by simp [cbF, cI, hg1]) Hr7) (am_fpT (fun k (hk : k < 39 ∨ 43 ≤ k) => fyfz8 k (by omega)) am_fp0)
theorem wr_c {L : Nat} {tp : Nat → Int32} {p : Prop} {a b : RS} (ha : p → WR L tp a) (hb : ¬ p → WR L tp b) : WR L tp (cI p a b) := by
  by_cases q : p
  · rw [cI_t q]; exact ha q
  · rw [cI_f q]; exact hb q
theorem wr_cb {L : Nat} {tp : Nat → Int32} {ρ : RS} (h : WR L tp ρ) : WR L tp (cbF L tp ρ) := wr_c (fun _ => wr_av h) (fun _ => wr_fl h)
theorem wr_ky {L : Nat} {tp : Nat → Int32} {ρ : RS} {k : Int32} (h : WR L tp ρ) : WR L tp (kyF ρ k) := h
theorem wr_rk {L : Nat} {tp : Nat → Int32} {ρ : RS} (h : WR L tp ρ) : WR L tp (rkF L tp ρ) := wr_c (fun _ => wr_av (wr_ky h)) (fun _ => wr_c (fun _ => wr_av (wr_ky h)) (fun _ => wr_c (fun _ => wr_av (wr_ky h)) (fun _ => wr_fl h)))
noncomputable def lpF (L : Nat) (tp : Nat → Int32) (G : RS → RS) (T : RS → Prop) : Nat → RS → RS
  | 0, ρ => ρ
  | m + 1, ρ => cI (T ρ) (lpF L tp G T m (emF (-(tp ρ.1.2.1)) (G (avF L tp ρ)))) ρ
def sgP (tp : Nat → Int32) (ρ : RS) : Prop := isSg tp ρ 42 ∨ isSg tp ρ 47
def sgS (tp : Nat → Int32) (ρ : RS) : Prop := isSg tp ρ 43 ∨ isSg tp ρ 45
def sgT (tp : Nat → Int32) (ρ : RS) : Prop := isSg tp ρ 60 ∨ isSg tp ρ 61 ∨ isSg tp ρ 62
noncomputable def pdF (L : Nat) (tp : Nat → Int32) (P : RS → RS) (ρ : RS) : RS := lpF L tp P (sgP tp) 96 (P ρ)
noncomputable def smF (L : Nat) (tp : Nat → Int32) (P : RS → RS) (ρ : RS) : RS := lpF L tp (pdF L tp P) (sgS tp) 96 (pdF L tp P ρ)
noncomputable def tsG (L : Nat) (tp : Nat → Int32) (G : RS → RS) (ρ : RS) : RS := cI (sgT tp ρ) (emF (-(tp ρ.1.2.1)) (G (avF L tp ρ))) ρ
noncomputable def tsF (L : Nat) (tp : Nat → Int32) (P : RS → RS) (ρ : RS) : RS := tsG L tp (smF L tp P) (smF L tp P ρ)
noncomputable def anF (L : Nat) (tp : Nat → Int32) (P : RS → RS) (ρ : RS) : RS := lpF L tp (tsF L tp P) (fun ρ => isSg tp ρ 38) 96 (tsF L tp P ρ)
noncomputable def orF (L : Nat) (tp : Nat → Int32) (P : RS → RS) (ρ : RS) : RS := lpF L tp (anF L tp P) (fun ρ => isSg tp ρ 124) 96 (anF L tp P ρ)
noncomputable def pcF (L : Nat) (tp : Nat → Int32) : Nat → RS → RS
  | 0, ρ => ρ
  | D + 1, ρ => cI (ρ.2.1 = none) (cI (ρ.1.1 = 2) (avF L tp (eoF (numF tp ρ) ρ)) (match nameO tp ρ with
    | some j => avF L tp (eoF (-1 - nI j) ρ)
    | none => cI (isSg tp ρ 33 ∧ ρ.2.2.2.2.2.2 < 8) (emF (-33) (ogF (pcF L tp D (avF L tp (ogF ρ (ρ.2.2.2.2.2.2 + 1)))) ρ.2.2.2.2.2.2))
      (cI (isSg tp ρ 40 ∧ ρ.2.2.2.2.2.1 < 8) (cbF L tp (obF (orF L tp (pcF L tp D) (avF L tp (obF ρ (ρ.2.2.2.2.2.1 + 1)))) ρ.2.2.2.2.2.1)) (flF ρ)))) ρ
def kp (ρ' ρ : RS) : Prop := ρ'.2.2.1 = ρ.2.2.1 ∧ ρ'.2.2.2.2.2 = ρ.2.2.2.2.2
def PO (L : Nat) (tp : Nat → Int32) (D : Nat) (P : RS → RS) : Prop := ∀ ρ, WR L tp ρ → 17 ≤ D + ρ.2.2.2.2.2.1 + ρ.2.2.2.2.2.2 → WR L tp (P ρ) ∧ kp (P ρ) ρ
theorem lp_ok {L : Nat} {tp : Nat → Int32} {D : Nat} {G : RS → RS} {T : RS → Prop} (hG : PO L tp D G) : ∀ (m : Nat), PO L tp D (lpF L tp G T m) := by
  intro m
  induction m with
  | zero => intro ρ h _; exact ⟨h, rfl, rfl⟩
  | succ m ih =>
    intro ρ h hd
    show WR L tp (cI (T ρ) _ ρ) ∧ kp (cI (T ρ) _ ρ) ρ
    by_cases q : T ρ
    · rw [cI_t q]
      have g := hG (avF L tp ρ) (wr_av h) hd
      have e := wr_em (c := -(tp ρ.1.2.1)) g.1
      have hob : (emF (-(tp ρ.1.2.1)) (G (avF L tp ρ))).2.2.2.2.2 = ρ.2.2.2.2.2 := g.2.2
      have r := ih _ e (by rw [show (emF (-(tp ρ.1.2.1)) (G (avF L tp ρ))).2.2.2.2.2.1 = ρ.2.2.2.2.2.1 from congrArg (fun z => z.1) hob, show (emF (-(tp ρ.1.2.1)) (G (avF L tp ρ))).2.2.2.2.2.2 = ρ.2.2.2.2.2.2 from congrArg (fun z => z.2) hob]; exact hd)
      exact ⟨r.1, r.2.1.trans g.2.1, r.2.2.trans hob⟩
    · rw [cI_f q]; exact ⟨h, rfl, rfl⟩
theorem sq_ok {L : Nat} {tp : Nat → Int32} {D : Nat} {G K : RS → RS} (hG : PO L tp D G) (hK : PO L tp D K) : PO L tp D (fun ρ => K (G ρ)) := fun ρ h hd => by
  have g := hG ρ h hd
  have k := hK (G ρ) g.1 (by rw [show (G ρ).2.2.2.2.2.1 = ρ.2.2.2.2.2.1 from congrArg (fun z => z.1) g.2.2, show (G ρ).2.2.2.2.2.2 = ρ.2.2.2.2.2.2 from congrArg (fun z => z.2) g.2.2]; exact hd)
  exact ⟨k.1, k.2.1.trans g.2.1, k.2.2.trans g.2.2⟩
theorem ts_ok {L : Nat} {tp : Nat → Int32} {D : Nat} {G : RS → RS} (hG : PO L tp D G) : PO L tp D (tsG L tp G) := fun ρ h hd => by
  unfold tsG
  by_cases q : sgT tp ρ
  · rw [cI_t q]
    have g := hG (avF L tp ρ) (wr_av h) hd
    exact ⟨wr_em g.1, g.2⟩
  · rw [cI_f q]; exact ⟨h, rfl, rfl⟩
theorem pd_ok {L : Nat} {tp : Nat → Int32} {D : Nat} {P : RS → RS} (hP : PO L tp D P) : PO L tp D (pdF L tp P) := sq_ok (G := P) (K := lpF L tp P (sgP tp) 96) hP (lp_ok hP 96)
theorem sm_ok {L : Nat} {tp : Nat → Int32} {D : Nat} {P : RS → RS} (hP : PO L tp D P) : PO L tp D (smF L tp P) := sq_ok (G := pdF L tp P) (K := lpF L tp (pdF L tp P) (sgS tp) 96) (pd_ok hP) (lp_ok (pd_ok hP) 96)
theorem tsF_ok {L : Nat} {tp : Nat → Int32} {D : Nat} {P : RS → RS} (hP : PO L tp D P) : PO L tp D (tsF L tp P) := sq_ok (G := smF L tp P) (K := tsG L tp (smF L tp P)) (sm_ok hP) (ts_ok (sm_ok hP))
theorem an_ok {L : Nat} {tp : Nat → Int32} {D : Nat} {P : RS → RS} (hP : PO L tp D P) : PO L tp D (anF L tp P) := sq_ok (G := tsF L tp P) (K := lpF L tp (tsF L tp P) (fun ρ => isSg tp ρ 38) 96) (tsF_ok hP) (lp_ok (tsF_ok hP) 96)
theorem or_ok {L : Nat} {tp : Nat → Int32} {D : Nat} {P : RS → RS} (hP : PO L tp D P) : PO L tp D (orF L tp P) := sq_ok (G := anF L tp P) (K := lpF L tp (anF L tp P) (fun ρ => isSg tp ρ 124) 96) (an_ok hP) (lp_ok (an_ok hP) 96)
theorem pc_ok {L : Nat} {tp : Nat → Int32} : ∀ (D : Nat), PO L tp D (pcF L tp D) := by
  intro D
  induction D with
  | zero => intro ρ h hd; exact ⟨h, rfl, rfl⟩
  | succ D ih =>
    intro ρ h hd
    unfold pcF
    by_cases q1 : ρ.2.1 = none
    · rw [cI_t q1]
      by_cases q2 : ρ.1.1 = 2
      · rw [cI_t q2]; exact ⟨wr_av (wr_eo h), rfl, rfl⟩
      · rw [cI_f q2]
        cases nameO tp ρ with
        | some j => exact ⟨wr_av (wr_eo h), rfl, rfl⟩
        | none =>
          show WR L tp (cI _ _ _) ∧ kp (cI _ _ _) ρ
          by_cases q3 : isSg tp ρ 33 ∧ ρ.2.2.2.2.2.2 < 8
          · rw [cI_t q3]
            have g := ih (avF L tp (ogF ρ (ρ.2.2.2.2.2.2 + 1))) (wr_av (wr_og (by omega) h)) (by show 17 ≤ D + ρ.2.2.2.2.2.1 + (ρ.2.2.2.2.2.2 + 1); omega)
            refine ⟨wr_em (wr_og h.2.2.2.2.1 g.1), g.2.1, ?_⟩
            have e1 := congrArg (fun z : Nat × Nat => z.1) g.2.2
            exact Prod.ext e1 rfl
          · rw [cI_f q3]
            by_cases q4 : isSg tp ρ 40 ∧ ρ.2.2.2.2.2.1 < 8
            · rw [cI_t q4]
              have g := or_ok ih (avF L tp (obF ρ (ρ.2.2.2.2.2.1 + 1))) (wr_av (wr_ob (by omega) h)) (by show 17 ≤ D + (ρ.2.2.2.2.2.1 + 1) + ρ.2.2.2.2.2.2; omega)
              have e1 := congrArg (fun z : Nat × Nat => z.2) g.2.2
              have e9 : kp (obF (orF L tp (pcF L tp D) (avF L tp (obF ρ (ρ.2.2.2.2.2.1 + 1)))) ρ.2.2.2.2.2.1) ρ := ⟨g.2.1, Prod.ext rfl e1⟩
              refine ⟨wr_cb (wr_ob h.2.2.2.1 g.1), ?_⟩
              unfold cbF
              generalize obF (orF L tp (pcF L tp D) (avF L tp (obF ρ (ρ.2.2.2.2.2.1 + 1)))) ρ.2.2.2.2.2.1 = Z at e9 ⊢
              by_cases q5 : isSg tp Z 41
              · rw [cI_t q5]; exact e9
              · rw [cI_f q5]; exact e9
            · rw [cI_f q4]; exact ⟨wr_fl h, rfl, rfl⟩
    · rw [cI_f q1]; exact ⟨h, rfl, rfl⟩
