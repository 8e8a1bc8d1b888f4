def wz0 (tp : Nat → Int32) (ρ : RS) : Prop := ρ.1.1 = 1 ∧ ρ.1.2.2 = ρ.1.2.1 + 4 ∧ tp (ρ.1.2.1 + 0) = 116 ∧ tp (ρ.1.2.1 + 1) = 111 ∧ tp (ρ.1.2.1 + 2) = 110 ∧ tp (ρ.1.2.1 + 3) = 101
def wz1 (tp : Nat → Int32) (ρ : RS) : Prop := ρ.1.1 = 1 ∧ ρ.1.2.2 = ρ.1.2.1 + 3 ∧ tp (ρ.1.2.1 + 0) = 102 ∧ tp (ρ.1.2.1 + 1) = 101 ∧ tp (ρ.1.2.1 + 2) = 101
def wz2 (tp : Nat → Int32) (ρ : RS) : Prop := ρ.1.1 = 1 ∧ ρ.1.2.2 = ρ.1.2.1 + 4 ∧ tp (ρ.1.2.1 + 0) = 102 ∧ tp (ρ.1.2.1 + 1) = 105 ∧ tp (ρ.1.2.1 + 2) = 110 ∧ tp (ρ.1.2.1 + 3) = 101
set_option maxHeartbeats 4000000 in
set_option maxRecDepth 100000 in
theorem r_isWord0 {X : List Int32} {d rc rs n : Nat} {Q : am_Q} {h : am_H} {L : Nat} {tp : Nat → Int32} {ρ : RS} (H : RX ρ L tp h) (Wf : WR L tp ρ) (k1 : wz0 tp ρ → Q (some (.int 1)) n h) (k0 : ¬ wz0 tp ρ → Q (some (.int 0)) n h) : AW X mX1_isWord (d + 8) rc rs 0 [some (.ref 39), some (.ref (1000002 + 0)), none] [] n h Q := by
  obtain ⟨wk, w96, wcl, wob, wog, wft⟩ := id Wf
  have we := wk.1
  have wf := wk.2.1
  have wt := wk.2.2.1
  refine aw_aload_n (npc := 1) rfl dX1_isWord_0 rfl ?_
  obtain ⟨r8u, cd8u, Rd8u, m1_8, m2_8, m3_8, m4_8, m5_8, m7_8, m8_8, m9_8, m10_8, mc_8⟩ := id H
  refine aw_get (npc := 4) dX1_isWord_1 rfl kf_X1_22 Rd8u.1 rfl ?_
  refine aw_top (y := nI ρ.1.1) (m2_8) ?_
  refine aw_iconst (npc := 5) (v := 1) (by decide) dX1_isWord_4 rfl ?_
  refine aw_icmp_ne (npc := 8) (tgt := 24) dX1_isWord_5 rfl (by decide) (fun hc1 => ?_) (fun hc1 => ?_)
  · have hc1N : ¬ ρ.1.1 = 1 := fun z9q => hc1 ((nI_eq (a := ρ.1.1) (b := 1) (by omega) (by omega)).mpr z9q)
    refine aw_iconst (npc := 25) (v := 0) (by decide) dX1_isWord_24 rfl ?_
    refine aw_zret rfl rfl dX1_isWord_25 ?_
    exact k0 (fun z => hc1N z.1)
  · have hc1N := (nI_eq (a := ρ.1.1) (b := 1) (by omega) (by omega)).mp hc1
    refine aw_aload_n (npc := 9) rfl dX1_isWord_8 rfl ?_
    refine aw_get (npc := 12) dX1_isWord_9 rfl kf_X1_18 Rd8u.1 rfl ?_
    refine aw_top (y := nI ρ.1.2.2) (m1_8) ?_
    refine aw_aload_n (npc := 13) rfl dX1_isWord_12 rfl ?_
    refine aw_get (npc := 16) dX1_isWord_13 rfl kf_X1_25 Rd8u.1 rfl ?_
    refine aw_top (y := nI ρ.1.2.1) (m3_8) ?_
    refine aw_isubV (npc := 17) (v := nI (ρ.1.2.2 - ρ.1.2.1)) dX1_isWord_16 rfl (pk_sub (by omega)) ?_
    refine aw_aload_n (npc := 18) rfl dX1_isWord_17 rfl ?_
    refine aw_callVS (npc := 21) (N := mJ0_length_8abf5) (i := 0) (mc := 0) (ms := 0) (A := []) (S := [.int (nI (ρ.1.2.2 - ρ.1.2.1))]) (L0 := [some (.ref (1000002 + 0))]) dX1_isWord_18 rfl km_J0_length_8abf5 kk_X1_83 (by omega) rfl rfl ⟨rfl, by decide⟩ rfl (Nat.le_of_ble_eq_true rfl) (Nat.zero_add _) (Nat.zero_add _) rfl ?_
    refine c_slen (i := 0) (by omega) ?_
    refine aw_re (S' := [.int 4, .int (nI (ρ.1.2.2 - ρ.1.2.1))]) rfl ?_
    refine aw_icmp_eq (npc := 24) (tgt := 26) dX1_isWord_21 rfl (by decide) (fun hc2 => ?_) (fun hc2 => ?_)
    · have hc2N := (nI_eq (a := (ρ.1.2.2 - ρ.1.2.1)) (b := 4) (by omega) (by omega)).mp hc2
      refine aw_iconst (npc := 27) (v := 0) (by decide) dX1_isWord_26 rfl ?_
      refine aw_istore_n (npc := 28) (L' := [some (.ref 39), some (.ref (1000002 + 0)), some (.int 0)]) dX1_isWord_27 rfl (by decide) rfl rfl ?_
      refine aw_iload_n (npc := 29) rfl dX1_isWord_28 rfl ?_
      refine aw_aload_n (npc := 30) rfl dX1_isWord_29 rfl ?_
      refine aw_callVS (npc := 33) (N := mJ0_length_8abf5) (i := 0) (mc := 0) (ms := 0) (A := []) (S := [.int 0]) (L0 := [some (.ref (1000002 + 0))]) dX1_isWord_30 rfl km_J0_length_8abf5 kk_X1_83 (by omega) rfl rfl ⟨rfl, by decide⟩ rfl (Nat.le_of_ble_eq_true rfl) (Nat.zero_add _) (Nat.zero_add _) rfl ?_
      refine c_slen (i := 0) (by omega) ?_
      refine aw_re (S' := [.int 4, .int 0]) rfl ?_
      refine aw_icmp_ge (npc := 36) (tgt := 66) dX1_isWord_33 rfl (by decide) (fun hc => absurd hc (by decide)) (fun _ => ?_)
      refine aw_aload_n (npc := 37) rfl dX1_isWord_36 rfl ?_
      refine aw_get (npc := 40) dX1_isWord_37 rfl kf_X1_12 Rd8u.1 rfl ?_
      refine aw_get (npc := 43) dX1_isWord_40 rfl kf_X1_76 Rd8u.2.1 rfl ?_
      refine aw_aload_n (npc := 44) rfl dX1_isWord_43 rfl ?_
      refine aw_get (npc := 47) dX1_isWord_44 rfl kf_X1_25 Rd8u.1 rfl ?_
      refine aw_top (y := nI ρ.1.2.1) (m3_8) ?_
      refine aw_iload_n (npc := 48) rfl dX1_isWord_47 rfl ?_
      refine aw_iaddV (npc := 49) (v := nI (ρ.1.2.1 + 0)) dX1_isWord_48 rfl (nI_add _ 0) ?_
      refine aw_iald (npc := 50) (x := tp (ρ.1.2.1 + 0)) (j := (ρ.1.2.1 + 0)) dX1_isWord_49 rfl Rd8u.2.2.1 (am_ix_nI (by omega)) (tl_at (by omega)) ?_
      refine aw_aload_n (npc := 51) rfl dX1_isWord_50 rfl ?_
      refine aw_iload_n (npc := 52) rfl dX1_isWord_51 rfl ?_
      refine aw_callVS (npc := 55) (N := mJ0_charAt_5068e) (i := 0) (mc := 0) (ms := 0) (A := [.int 0]) (S := [.int (tp (ρ.1.2.1 + 0))]) (L0 := [some (.ref (1000002 + 0)), some (.int 0)]) dX1_isWord_52 rfl km_J0_charAt_5068e kk_X1_88 (by omega) rfl rfl ⟨rfl, by decide⟩ rfl (Nat.le_of_ble_eq_true rfl) (Nat.zero_add _) (Nat.zero_add _) rfl ?_
      refine c_sch (i := 0) (k := 0) (by omega) (by decide) ?_
      refine aw_re (S' := [.int (sch 0 0), .int (tp (ρ.1.2.1 + 0))]) rfl ?_
      refine aw_top (y := 116) (by decide) ?_
      refine aw_icmp_eq (npc := 58) (tgt := 60) dX1_isWord_55 rfl (by decide) (fun hc3 => ?_) (fun hc3 => ?_)
      · refine aw_iinc (npc := 63) (v := 1) (L' := [some (.ref 39), some (.ref (1000002 + 0)), some (.int 1)]) dX1_isWord_60 rfl rfl (by decide) (by decide) rfl rfl ?_
        refine aw_goto (npc := 28) dX1_isWord_63 (by decide) ?_
        refine aw_iload_n (npc := 29) rfl dX1_isWord_28 rfl ?_
        refine aw_aload_n (npc := 30) rfl dX1_isWord_29 rfl ?_
        refine aw_callVS (npc := 33) (N := mJ0_length_8abf5) (i := 0) (mc := 0) (ms := 0) (A := []) (S := [.int 1]) (L0 := [some (.ref (1000002 + 0))]) dX1_isWord_30 rfl km_J0_length_8abf5 kk_X1_83 (by omega) rfl rfl ⟨rfl, by decide⟩ rfl (Nat.le_of_ble_eq_true rfl) (Nat.zero_add _) (Nat.zero_add _) rfl ?_
        refine c_slen (i := 0) (by omega) ?_
        refine aw_re (S' := [.int 4, .int 1]) rfl ?_
        refine aw_icmp_ge (npc := 36) (tgt := 66) dX1_isWord_33 rfl (by decide) (fun hc => absurd hc (by decide)) (fun _ => ?_)
        refine aw_aload_n (npc := 37) rfl dX1_isWord_36 rfl ?_
        refine aw_get (npc := 40) dX1_isWord_37 rfl kf_X1_12 Rd8u.1 rfl ?_
        refine aw_get (npc := 43) dX1_isWord_40 rfl kf_X1_76 Rd8u.2.1 rfl ?_
        refine aw_aload_n (npc := 44) rfl dX1_isWord_43 rfl ?_
        refine aw_get (npc := 47) dX1_isWord_44 rfl kf_X1_25 Rd8u.1 rfl ?_
        refine aw_top (y := nI ρ.1.2.1) (m3_8) ?_
        refine aw_iload_n (npc := 48) rfl dX1_isWord_47 rfl ?_
        refine aw_iaddV (npc := 49) (v := nI (ρ.1.2.1 + 1)) dX1_isWord_48 rfl (nI_add _ 1) ?_
        refine aw_iald (npc := 50) (x := tp (ρ.1.2.1 + 1)) (j := (ρ.1.2.1 + 1)) dX1_isWord_49 rfl Rd8u.2.2.1 (am_ix_nI (by omega)) (tl_at (by omega)) ?_
        refine aw_aload_n (npc := 51) rfl dX1_isWord_50 rfl ?_
        refine aw_iload_n (npc := 52) rfl dX1_isWord_51 rfl ?_
        refine aw_callVS (npc := 55) (N := mJ0_charAt_5068e) (i := 0) (mc := 0) (ms := 0) (A := [.int 1]) (S := [.int (tp (ρ.1.2.1 + 1))]) (L0 := [some (.ref (1000002 + 0)), some (.int 1)]) dX1_isWord_52 rfl km_J0_charAt_5068e kk_X1_88 (by omega) rfl rfl ⟨rfl, by decide⟩ rfl (Nat.le_of_ble_eq_true rfl) (Nat.zero_add _) (Nat.zero_add _) rfl ?_
        refine c_sch (i := 0) (k := 1) (by omega) (by decide) ?_
        refine aw_re (S' := [.int (sch 0 1), .int (tp (ρ.1.2.1 + 1))]) rfl ?_
        refine aw_top (y := 111) (by decide) ?_
        refine aw_icmp_eq (npc := 58) (tgt := 60) dX1_isWord_55 rfl (by decide) (fun hc4 => ?_) (fun hc4 => ?_)
        · refine aw_iinc (npc := 63) (v := 2) (L' := [some (.ref 39), some (.ref (1000002 + 0)), some (.int 2)]) dX1_isWord_60 rfl rfl (by decide) (by decide) rfl rfl ?_
          refine aw_goto (npc := 28) dX1_isWord_63 (by decide) ?_
          refine aw_iload_n (npc := 29) rfl dX1_isWord_28 rfl ?_
          refine aw_aload_n (npc := 30) rfl dX1_isWord_29 rfl ?_
          refine aw_callVS (npc := 33) (N := mJ0_length_8abf5) (i := 0) (mc := 0) (ms := 0) (A := []) (S := [.int 2]) (L0 := [some (.ref (1000002 + 0))]) dX1_isWord_30 rfl km_J0_length_8abf5 kk_X1_83 (by omega) rfl rfl ⟨rfl, by decide⟩ rfl (Nat.le_of_ble_eq_true rfl) (Nat.zero_add _) (Nat.zero_add _) rfl ?_
          refine c_slen (i := 0) (by omega) ?_
          refine aw_re (S' := [.int 4, .int 2]) rfl ?_
          refine aw_icmp_ge (npc := 36) (tgt := 66) dX1_isWord_33 rfl (by decide) (fun hc => absurd hc (by decide)) (fun _ => ?_)
          refine aw_aload_n (npc := 37) rfl dX1_isWord_36 rfl ?_
          refine aw_get (npc := 40) dX1_isWord_37 rfl kf_X1_12 Rd8u.1 rfl ?_
          refine aw_get (npc := 43) dX1_isWord_40 rfl kf_X1_76 Rd8u.2.1 rfl ?_
          refine aw_aload_n (npc := 44) rfl dX1_isWord_43 rfl ?_
          refine aw_get (npc := 47) dX1_isWord_44 rfl kf_X1_25 Rd8u.1 rfl ?_
          refine aw_top (y := nI ρ.1.2.1) (m3_8) ?_
          refine aw_iload_n (npc := 48) rfl dX1_isWord_47 rfl ?_
          refine aw_iaddV (npc := 49) (v := nI (ρ.1.2.1 + 2)) dX1_isWord_48 rfl (nI_add _ 2) ?_
          refine aw_iald (npc := 50) (x := tp (ρ.1.2.1 + 2)) (j := (ρ.1.2.1 + 2)) dX1_isWord_49 rfl Rd8u.2.2.1 (am_ix_nI (by omega)) (tl_at (by omega)) ?_
          refine aw_aload_n (npc := 51) rfl dX1_isWord_50 rfl ?_
          refine aw_iload_n (npc := 52) rfl dX1_isWord_51 rfl ?_
          refine aw_callVS (npc := 55) (N := mJ0_charAt_5068e) (i := 0) (mc := 0) (ms := 0) (A := [.int 2]) (S := [.int (tp (ρ.1.2.1 + 2))]) (L0 := [some (.ref (1000002 + 0)), some (.int 2)]) dX1_isWord_52 rfl km_J0_charAt_5068e kk_X1_88 (by omega) rfl rfl ⟨rfl, by decide⟩ rfl (Nat.le_of_ble_eq_true rfl) (Nat.zero_add _) (Nat.zero_add _) rfl ?_
          refine c_sch (i := 0) (k := 2) (by omega) (by decide) ?_
          refine aw_re (S' := [.int (sch 0 2), .int (tp (ρ.1.2.1 + 2))]) rfl ?_
          refine aw_top (y := 110) (by decide) ?_
          refine aw_icmp_eq (npc := 58) (tgt := 60) dX1_isWord_55 rfl (by decide) (fun hc5 => ?_) (fun hc5 => ?_)
          · refine aw_iinc (npc := 63) (v := 3) (L' := [some (.ref 39), some (.ref (1000002 + 0)), some (.int 3)]) dX1_isWord_60 rfl rfl (by decide) (by decide) rfl rfl ?_
            refine aw_goto (npc := 28) dX1_isWord_63 (by decide) ?_
            refine aw_iload_n (npc := 29) rfl dX1_isWord_28 rfl ?_
            refine aw_aload_n (npc := 30) rfl dX1_isWord_29 rfl ?_
            refine aw_callVS (npc := 33) (N := mJ0_length_8abf5) (i := 0) (mc := 0) (ms := 0) (A := []) (S := [.int 3]) (L0 := [some (.ref (1000002 + 0))]) dX1_isWord_30 rfl km_J0_length_8abf5 kk_X1_83 (by omega) rfl rfl ⟨rfl, by decide⟩ rfl (Nat.le_of_ble_eq_true rfl) (Nat.zero_add _) (Nat.zero_add _) rfl ?_
            refine c_slen (i := 0) (by omega) ?_
            refine aw_re (S' := [.int 4, .int 3]) rfl ?_
            refine aw_icmp_ge (npc := 36) (tgt := 66) dX1_isWord_33 rfl (by decide) (fun hc => absurd hc (by decide)) (fun _ => ?_)
            refine aw_aload_n (npc := 37) rfl dX1_isWord_36 rfl ?_
            refine aw_get (npc := 40) dX1_isWord_37 rfl kf_X1_12 Rd8u.1 rfl ?_
            refine aw_get (npc := 43) dX1_isWord_40 rfl kf_X1_76 Rd8u.2.1 rfl ?_
            refine aw_aload_n (npc := 44) rfl dX1_isWord_43 rfl ?_
            refine aw_get (npc := 47) dX1_isWord_44 rfl kf_X1_25 Rd8u.1 rfl ?_
            refine aw_top (y := nI ρ.1.2.1) (m3_8) ?_
            refine aw_iload_n (npc := 48) rfl dX1_isWord_47 rfl ?_
            refine aw_iaddV (npc := 49) (v := nI (ρ.1.2.1 + 3)) dX1_isWord_48 rfl (nI_add _ 3) ?_
            refine aw_iald (npc := 50) (x := tp (ρ.1.2.1 + 3)) (j := (ρ.1.2.1 + 3)) dX1_isWord_49 rfl Rd8u.2.2.1 (am_ix_nI (by omega)) (tl_at (by omega)) ?_
            refine aw_aload_n (npc := 51) rfl dX1_isWord_50 rfl ?_
            refine aw_iload_n (npc := 52) rfl dX1_isWord_51 rfl ?_
            refine aw_callVS (npc := 55) (N := mJ0_charAt_5068e) (i := 0) (mc := 0) (ms := 0) (A := [.int 3]) (S := [.int (tp (ρ.1.2.1 + 3))]) (L0 := [some (.ref (1000002 + 0)), some (.int 3)]) dX1_isWord_52 rfl km_J0_charAt_5068e kk_X1_88 (by omega) rfl rfl ⟨rfl, by decide⟩ rfl (Nat.le_of_ble_eq_true rfl) (Nat.zero_add _) (Nat.zero_add _) rfl ?_
            refine c_sch (i := 0) (k := 3) (by omega) (by decide) ?_
            refine aw_re (S' := [.int (sch 0 3), .int (tp (ρ.1.2.1 + 3))]) rfl ?_
            refine aw_top (y := 101) (by decide) ?_
            refine aw_icmp_eq (npc := 58) (tgt := 60) dX1_isWord_55 rfl (by decide) (fun hc6 => ?_) (fun hc6 => ?_)
            · refine aw_iinc (npc := 63) (v := 4) (L' := [some (.ref 39), some (.ref (1000002 + 0)), some (.int 4)]) dX1_isWord_60 rfl rfl (by decide) (by decide) rfl rfl ?_
              refine aw_goto (npc := 28) dX1_isWord_63 (by decide) ?_
              refine aw_iload_n (npc := 29) rfl dX1_isWord_28 rfl ?_
              refine aw_aload_n (npc := 30) rfl dX1_isWord_29 rfl ?_
              refine aw_callVS (npc := 33) (N := mJ0_length_8abf5) (i := 0) (mc := 0) (ms := 0) (A := []) (S := [.int 4]) (L0 := [some (.ref (1000002 + 0))]) dX1_isWord_30 rfl km_J0_length_8abf5 kk_X1_83 (by omega) rfl rfl ⟨rfl, by decide⟩ rfl (Nat.le_of_ble_eq_true rfl) (Nat.zero_add _) (Nat.zero_add _) rfl ?_
              refine c_slen (i := 0) (by omega) ?_
              refine aw_re (S' := [.int 4, .int 4]) rfl ?_
              refine aw_icmp_ge (npc := 36) (tgt := 66) dX1_isWord_33 rfl (by decide) (fun _ => ?_) (fun hc => absurd (by decide) hc)
              refine aw_iconst (npc := 67) (v := 1) (by decide) dX1_isWord_66 rfl ?_
              refine aw_zret rfl rfl dX1_isWord_67 ?_
              exact k1 ⟨hc1N, by omega, hc3, hc4, hc5, hc6⟩
            · refine aw_iconst (npc := 59) (v := 0) (by decide) dX1_isWord_58 rfl ?_
              refine aw_zret rfl rfl dX1_isWord_59 ?_
              exact k0 (fun z => hc6 z.2.2.2.2.2)
          · refine aw_iconst (npc := 59) (v := 0) (by decide) dX1_isWord_58 rfl ?_
            refine aw_zret rfl rfl dX1_isWord_59 ?_
            exact k0 (fun z => hc5 z.2.2.2.2.1)
        · refine aw_iconst (npc := 59) (v := 0) (by decide) dX1_isWord_58 rfl ?_
          refine aw_zret rfl rfl dX1_isWord_59 ?_
          exact k0 (fun z => hc4 z.2.2.2.1)
      · refine aw_iconst (npc := 59) (v := 0) (by decide) dX1_isWord_58 rfl ?_
        refine aw_zret rfl rfl dX1_isWord_59 ?_
        exact k0 (fun z => hc3 z.2.2.1)
    · have hc2N : ¬ (ρ.1.2.2 - ρ.1.2.1) = 4 := fun z9q => hc2 ((nI_eq (a := (ρ.1.2.2 - ρ.1.2.1)) (b := 4) (by omega) (by omega)).mpr z9q)
      refine aw_iconst (npc := 25) (v := 0) (by decide) dX1_isWord_24 rfl ?_
      refine aw_zret rfl rfl dX1_isWord_25 ?_
      exact k0 (fun z => hc2N (by have z2 := z.2.1; omega))
set_option maxHeartbeats 4000000 in
set_option maxRecDepth 100000 in
theorem r_isWord1 {X : List Int32} {d rc rs n : Nat} {Q : am_Q} {h : am_H} {L : Nat} {tp : Nat → Int32} {ρ : RS} (H : RX ρ L tp h) (Wf : WR L tp ρ) (k1 : wz1 tp ρ → Q (some (.int 1)) n h) (k0 : ¬ wz1 tp ρ → Q (some (.int 0)) n h) : AW X mX1_isWord (d + 8) rc rs 0 [some (.ref 39), some (.ref (1000002 + 1)), none] [] n h Q := by
  obtain ⟨wk, w96, wcl, wob, wog, wft⟩ := id Wf
  have we := wk.1
  have wf := wk.2.1
  have wt := wk.2.2.1
  refine aw_aload_n (npc := 1) rfl dX1_isWord_0 rfl ?_
  obtain ⟨r9u, cd9u, Rd9u, m1_9, m2_9, m3_9, m4_9, m5_9, m7_9, m8_9, m9_9, m10_9, mc_9⟩ := id H
  refine aw_get (npc := 4) dX1_isWord_1 rfl kf_X1_22 Rd9u.1 rfl ?_
  refine aw_top (y := nI ρ.1.1) (m2_9) ?_
  refine aw_iconst (npc := 5) (v := 1) (by decide) dX1_isWord_4 rfl ?_
  refine aw_icmp_ne (npc := 8) (tgt := 24) dX1_isWord_5 rfl (by decide) (fun hc1 => ?_) (fun hc1 => ?_)
  · have hc1N : ¬ ρ.1.1 = 1 := fun z9q => hc1 ((nI_eq (a := ρ.1.1) (b := 1) (by omega) (by omega)).mpr z9q)
    refine aw_iconst (npc := 25) (v := 0) (by decide) dX1_isWord_24 rfl ?_
    refine aw_zret rfl rfl dX1_isWord_25 ?_
    exact k0 (fun z => hc1N z.1)
  · have hc1N := (nI_eq (a := ρ.1.1) (b := 1) (by omega) (by omega)).mp hc1
    refine aw_aload_n (npc := 9) rfl dX1_isWord_8 rfl ?_
    refine aw_get (npc := 12) dX1_isWord_9 rfl kf_X1_18 Rd9u.1 rfl ?_
    refine aw_top (y := nI ρ.1.2.2) (m1_9) ?_
    refine aw_aload_n (npc := 13) rfl dX1_isWord_12 rfl ?_
    refine aw_get (npc := 16) dX1_isWord_13 rfl kf_X1_25 Rd9u.1 rfl ?_
    refine aw_top (y := nI ρ.1.2.1) (m3_9) ?_
    refine aw_isubV (npc := 17) (v := nI (ρ.1.2.2 - ρ.1.2.1)) dX1_isWord_16 rfl (pk_sub (by omega)) ?_
    refine aw_aload_n (npc := 18) rfl dX1_isWord_17 rfl ?_
    refine aw_callVS (npc := 21) (N := mJ0_length_8abf5) (i := 1) (mc := 0) (ms := 0) (A := []) (S := [.int (nI (ρ.1.2.2 - ρ.1.2.1))]) (L0 := [some (.ref (1000002 + 1))]) dX1_isWord_18 rfl km_J0_length_8abf5 kk_X1_83 (by omega) rfl rfl ⟨rfl, by decide⟩ rfl (Nat.le_of_ble_eq_true rfl) (Nat.zero_add _) (Nat.zero_add _) rfl ?_
    refine c_slen (i := 1) (by omega) ?_
    refine aw_re (S' := [.int 3, .int (nI (ρ.1.2.2 - ρ.1.2.1))]) rfl ?_
    refine aw_icmp_eq (npc := 24) (tgt := 26) dX1_isWord_21 rfl (by decide) (fun hc2 => ?_) (fun hc2 => ?_)
    · have hc2N := (nI_eq (a := (ρ.1.2.2 - ρ.1.2.1)) (b := 3) (by omega) (by omega)).mp hc2
      refine aw_iconst (npc := 27) (v := 0) (by decide) dX1_isWord_26 rfl ?_
      refine aw_istore_n (npc := 28) (L' := [some (.ref 39), some (.ref (1000002 + 1)), some (.int 0)]) dX1_isWord_27 rfl (by decide) rfl rfl ?_
      refine aw_iload_n (npc := 29) rfl dX1_isWord_28 rfl ?_
      refine aw_aload_n (npc := 30) rfl dX1_isWord_29 rfl ?_
      refine aw_callVS (npc := 33) (N := mJ0_length_8abf5) (i := 1) (mc := 0) (ms := 0) (A := []) (S := [.int 0]) (L0 := [some (.ref (1000002 + 1))]) dX1_isWord_30 rfl km_J0_length_8abf5 kk_X1_83 (by omega) rfl rfl ⟨rfl, by decide⟩ rfl (Nat.le_of_ble_eq_true rfl) (Nat.zero_add _) (Nat.zero_add _) rfl ?_
      refine c_slen (i := 1) (by omega) ?_
      refine aw_re (S' := [.int 3, .int 0]) rfl ?_
      refine aw_icmp_ge (npc := 36) (tgt := 66) dX1_isWord_33 rfl (by decide) (fun hc => absurd hc (by decide)) (fun _ => ?_)
      refine aw_aload_n (npc := 37) rfl dX1_isWord_36 rfl ?_
      refine aw_get (npc := 40) dX1_isWord_37 rfl kf_X1_12 Rd9u.1 rfl ?_
      refine aw_get (npc := 43) dX1_isWord_40 rfl kf_X1_76 Rd9u.2.1 rfl ?_
      refine aw_aload_n (npc := 44) rfl dX1_isWord_43 rfl ?_
      refine aw_get (npc := 47) dX1_isWord_44 rfl kf_X1_25 Rd9u.1 rfl ?_
      refine aw_top (y := nI ρ.1.2.1) (m3_9) ?_
      refine aw_iload_n (npc := 48) rfl dX1_isWord_47 rfl ?_
      refine aw_iaddV (npc := 49) (v := nI (ρ.1.2.1 + 0)) dX1_isWord_48 rfl (nI_add _ 0) ?_
      refine aw_iald (npc := 50) (x := tp (ρ.1.2.1 + 0)) (j := (ρ.1.2.1 + 0)) dX1_isWord_49 rfl Rd9u.2.2.1 (am_ix_nI (by omega)) (tl_at (by omega)) ?_
      refine aw_aload_n (npc := 51) rfl dX1_isWord_50 rfl ?_
      refine aw_iload_n (npc := 52) rfl dX1_isWord_51 rfl ?_
      refine aw_callVS (npc := 55) (N := mJ0_charAt_5068e) (i := 1) (mc := 0) (ms := 0) (A := [.int 0]) (S := [.int (tp (ρ.1.2.1 + 0))]) (L0 := [some (.ref (1000002 + 1)), some (.int 0)]) dX1_isWord_52 rfl km_J0_charAt_5068e kk_X1_88 (by omega) rfl rfl ⟨rfl, by decide⟩ rfl (Nat.le_of_ble_eq_true rfl) (Nat.zero_add _) (Nat.zero_add _) rfl ?_
      refine c_sch (i := 1) (k := 0) (by omega) (by decide) ?_
      refine aw_re (S' := [.int (sch 1 0), .int (tp (ρ.1.2.1 + 0))]) rfl ?_
      refine aw_top (y := 102) (by decide) ?_
      refine aw_icmp_eq (npc := 58) (tgt := 60) dX1_isWord_55 rfl (by decide) (fun hc3 => ?_) (fun hc3 => ?_)
      · refine aw_iinc (npc := 63) (v := 1) (L' := [some (.ref 39), some (.ref (1000002 + 1)), some (.int 1)]) dX1_isWord_60 rfl rfl (by decide) (by decide) rfl rfl ?_
        refine aw_goto (npc := 28) dX1_isWord_63 (by decide) ?_
        refine aw_iload_n (npc := 29) rfl dX1_isWord_28 rfl ?_
        refine aw_aload_n (npc := 30) rfl dX1_isWord_29 rfl ?_
        refine aw_callVS (npc := 33) (N := mJ0_length_8abf5) (i := 1) (mc := 0) (ms := 0) (A := []) (S := [.int 1]) (L0 := [some (.ref (1000002 + 1))]) dX1_isWord_30 rfl km_J0_length_8abf5 kk_X1_83 (by omega) rfl rfl ⟨rfl, by decide⟩ rfl (Nat.le_of_ble_eq_true rfl) (Nat.zero_add _) (Nat.zero_add _) rfl ?_
        refine c_slen (i := 1) (by omega) ?_
        refine aw_re (S' := [.int 3, .int 1]) rfl ?_
        refine aw_icmp_ge (npc := 36) (tgt := 66) dX1_isWord_33 rfl (by decide) (fun hc => absurd hc (by decide)) (fun _ => ?_)
        refine aw_aload_n (npc := 37) rfl dX1_isWord_36 rfl ?_
        refine aw_get (npc := 40) dX1_isWord_37 rfl kf_X1_12 Rd9u.1 rfl ?_
        refine aw_get (npc := 43) dX1_isWord_40 rfl kf_X1_76 Rd9u.2.1 rfl ?_
        refine aw_aload_n (npc := 44) rfl dX1_isWord_43 rfl ?_
        refine aw_get (npc := 47) dX1_isWord_44 rfl kf_X1_25 Rd9u.1 rfl ?_
        refine aw_top (y := nI ρ.1.2.1) (m3_9) ?_
        refine aw_iload_n (npc := 48) rfl dX1_isWord_47 rfl ?_
        refine aw_iaddV (npc := 49) (v := nI (ρ.1.2.1 + 1)) dX1_isWord_48 rfl (nI_add _ 1) ?_
        refine aw_iald (npc := 50) (x := tp (ρ.1.2.1 + 1)) (j := (ρ.1.2.1 + 1)) dX1_isWord_49 rfl Rd9u.2.2.1 (am_ix_nI (by omega)) (tl_at (by omega)) ?_
        refine aw_aload_n (npc := 51) rfl dX1_isWord_50 rfl ?_
        refine aw_iload_n (npc := 52) rfl dX1_isWord_51 rfl ?_
        refine aw_callVS (npc := 55) (N := mJ0_charAt_5068e) (i := 1) (mc := 0) (ms := 0) (A := [.int 1]) (S := [.int (tp (ρ.1.2.1 + 1))]) (L0 := [some (.ref (1000002 + 1)), some (.int 1)]) dX1_isWord_52 rfl km_J0_charAt_5068e kk_X1_88 (by omega) rfl rfl ⟨rfl, by decide⟩ rfl (Nat.le_of_ble_eq_true rfl) (Nat.zero_add _) (Nat.zero_add _) rfl ?_
        refine c_sch (i := 1) (k := 1) (by omega) (by decide) ?_
        refine aw_re (S' := [.int (sch 1 1), .int (tp (ρ.1.2.1 + 1))]) rfl ?_
        refine aw_top (y := 101) (by decide) ?_
        refine aw_icmp_eq (npc := 58) (tgt := 60) dX1_isWord_55 rfl (by decide) (fun hc4 => ?_) (fun hc4 => ?_)
        · refine aw_iinc (npc := 63) (v := 2) (L' := [some (.ref 39), some (.ref (1000002 + 1)), some (.int 2)]) dX1_isWord_60 rfl rfl (by decide) (by decide) rfl rfl ?_
          refine aw_goto (npc := 28) dX1_isWord_63 (by decide) ?_
          refine aw_iload_n (npc := 29) rfl dX1_isWord_28 rfl ?_
          refine aw_aload_n (npc := 30) rfl dX1_isWord_29 rfl ?_
          refine aw_callVS (npc := 33) (N := mJ0_length_8abf5) (i := 1) (mc := 0) (ms := 0) (A := []) (S := [.int 2]) (L0 := [some (.ref (1000002 + 1))]) dX1_isWord_30 rfl km_J0_length_8abf5 kk_X1_83 (by omega) rfl rfl ⟨rfl, by decide⟩ rfl (Nat.le_of_ble_eq_true rfl) (Nat.zero_add _) (Nat.zero_add _) rfl ?_
          refine c_slen (i := 1) (by omega) ?_
          refine aw_re (S' := [.int 3, .int 2]) rfl ?_
          refine aw_icmp_ge (npc := 36) (tgt := 66) dX1_isWord_33 rfl (by decide) (fun hc => absurd hc (by decide)) (fun _ => ?_)
          refine aw_aload_n (npc := 37) rfl dX1_isWord_36 rfl ?_
          refine aw_get (npc := 40) dX1_isWord_37 rfl kf_X1_12 Rd9u.1 rfl ?_
          refine aw_get (npc := 43) dX1_isWord_40 rfl kf_X1_76 Rd9u.2.1 rfl ?_
          refine aw_aload_n (npc := 44) rfl dX1_isWord_43 rfl ?_
          refine aw_get (npc := 47) dX1_isWord_44 rfl kf_X1_25 Rd9u.1 rfl ?_
          refine aw_top (y := nI ρ.1.2.1) (m3_9) ?_
          refine aw_iload_n (npc := 48) rfl dX1_isWord_47 rfl ?_
          refine aw_iaddV (npc := 49) (v := nI (ρ.1.2.1 + 2)) dX1_isWord_48 rfl (nI_add _ 2) ?_
          refine aw_iald (npc := 50) (x := tp (ρ.1.2.1 + 2)) (j := (ρ.1.2.1 + 2)) dX1_isWord_49 rfl Rd9u.2.2.1 (am_ix_nI (by omega)) (tl_at (by omega)) ?_
          refine aw_aload_n (npc := 51) rfl dX1_isWord_50 rfl ?_
          refine aw_iload_n (npc := 52) rfl dX1_isWord_51 rfl ?_
          refine aw_callVS (npc := 55) (N := mJ0_charAt_5068e) (i := 1) (mc := 0) (ms := 0) (A := [.int 2]) (S := [.int (tp (ρ.1.2.1 + 2))]) (L0 := [some (.ref (1000002 + 1)), some (.int 2)]) dX1_isWord_52 rfl km_J0_charAt_5068e kk_X1_88 (by omega) rfl rfl ⟨rfl, by decide⟩ rfl (Nat.le_of_ble_eq_true rfl) (Nat.zero_add _) (Nat.zero_add _) rfl ?_
          refine c_sch (i := 1) (k := 2) (by omega) (by decide) ?_
          refine aw_re (S' := [.int (sch 1 2), .int (tp (ρ.1.2.1 + 2))]) rfl ?_
          refine aw_top (y := 101) (by decide) ?_
          refine aw_icmp_eq (npc := 58) (tgt := 60) dX1_isWord_55 rfl (by decide) (fun hc5 => ?_) (fun hc5 => ?_)
          · refine aw_iinc (npc := 63) (v := 3) (L' := [some (.ref 39), some (.ref (1000002 + 1)), some (.int 3)]) dX1_isWord_60 rfl rfl (by decide) (by decide) rfl rfl ?_
            refine aw_goto (npc := 28) dX1_isWord_63 (by decide) ?_
            refine aw_iload_n (npc := 29) rfl dX1_isWord_28 rfl ?_
            refine aw_aload_n (npc := 30) rfl dX1_isWord_29 rfl ?_
            refine aw_callVS (npc := 33) (N := mJ0_length_8abf5) (i := 1) (mc := 0) (ms := 0) (A := []) (S := [.int 3]) (L0 := [some (.ref (1000002 + 1))]) dX1_isWord_30 rfl km_J0_length_8abf5 kk_X1_83 (by omega) rfl rfl ⟨rfl, by decide⟩ rfl (Nat.le_of_ble_eq_true rfl) (Nat.zero_add _) (Nat.zero_add _) rfl ?_
            refine c_slen (i := 1) (by omega) ?_
            refine aw_re (S' := [.int 3, .int 3]) rfl ?_
            refine aw_icmp_ge (npc := 36) (tgt := 66) dX1_isWord_33 rfl (by decide) (fun _ => ?_) (fun hc => absurd (by decide) hc)
            refine aw_iconst (npc := 67) (v := 1) (by decide) dX1_isWord_66 rfl ?_
            refine aw_zret rfl rfl dX1_isWord_67 ?_
            exact k1 ⟨hc1N, by omega, hc3, hc4, hc5⟩
          · refine aw_iconst (npc := 59) (v := 0) (by decide) dX1_isWord_58 rfl ?_
            refine aw_zret rfl rfl dX1_isWord_59 ?_
            exact k0 (fun z => hc5 z.2.2.2.2)
        · refine aw_iconst (npc := 59) (v := 0) (by decide) dX1_isWord_58 rfl ?_
          refine aw_zret rfl rfl dX1_isWord_59 ?_
          exact k0 (fun z => hc4 z.2.2.2.1)
      · refine aw_iconst (npc := 59) (v := 0) (by decide) dX1_isWord_58 rfl ?_
        refine aw_zret rfl rfl dX1_isWord_59 ?_
        exact k0 (fun z => hc3 z.2.2.1)
    · have hc2N : ¬ (ρ.1.2.2 - ρ.1.2.1) = 3 := fun z9q => hc2 ((nI_eq (a := (ρ.1.2.2 - ρ.1.2.1)) (b := 3) (by omega) (by omega)).mpr z9q)
      refine aw_iconst (npc := 25) (v := 0) (by decide) dX1_isWord_24 rfl ?_
      refine aw_zret rfl rfl dX1_isWord_25 ?_
      exact k0 (fun z => hc2N (by have z2 := z.2.1; omega))
set_option maxHeartbeats 4000000 in
set_option maxRecDepth 100000 in
theorem r_isWord2 {X : List Int32} {d rc rs n : Nat} {Q : am_Q} {h : am_H} {L : Nat} {tp : Nat → Int32} {ρ : RS} (H : RX ρ L tp h) (Wf : WR L tp ρ) (k1 : wz2 tp ρ → Q (some (.int 1)) n h) (k0 : ¬ wz2 tp ρ → Q (some (.int 0)) n h) : AW X mX1_isWord (d + 8) rc rs 0 [some (.ref 39), some (.ref (1000002 + 2)), none] [] n h Q := by
  obtain ⟨wk, w96, wcl, wob, wog, wft⟩ := id Wf
  have we := wk.1
  have wf := wk.2.1
  have wt := wk.2.2.1
  refine aw_aload_n (npc := 1) rfl dX1_isWord_0 rfl ?_
  obtain ⟨r10u, cd10u, Rd10u, m1_10, m2_10, m3_10, m4_10, m5_10, m7_10, m8_10, m9_10, m10_10, mc_10⟩ := id H
  refine aw_get (npc := 4) dX1_isWord_1 rfl kf_X1_22 Rd10u.1 rfl ?_
  refine aw_top (y := nI ρ.1.1) (m2_10) ?_
  refine aw_iconst (npc := 5) (v := 1) (by decide) dX1_isWord_4 rfl ?_
  refine aw_icmp_ne (npc := 8) (tgt := 24) dX1_isWord_5 rfl (by decide) (fun hc1 => ?_) (fun hc1 => ?_)
  · have hc1N : ¬ ρ.1.1 = 1 := fun z9q => hc1 ((nI_eq (a := ρ.1.1) (b := 1) (by omega) (by omega)).mpr z9q)
    refine aw_iconst (npc := 25) (v := 0) (by decide) dX1_isWord_24 rfl ?_
    refine aw_zret rfl rfl dX1_isWord_25 ?_
    exact k0 (fun z => hc1N z.1)
  · have hc1N := (nI_eq (a := ρ.1.1) (b := 1) (by omega) (by omega)).mp hc1
    refine aw_aload_n (npc := 9) rfl dX1_isWord_8 rfl ?_
    refine aw_get (npc := 12) dX1_isWord_9 rfl kf_X1_18 Rd10u.1 rfl ?_
    refine aw_top (y := nI ρ.1.2.2) (m1_10) ?_
    refine aw_aload_n (npc := 13) rfl dX1_isWord_12 rfl ?_
    refine aw_get (npc := 16) dX1_isWord_13 rfl kf_X1_25 Rd10u.1 rfl ?_
    refine aw_top (y := nI ρ.1.2.1) (m3_10) ?_
    refine aw_isubV (npc := 17) (v := nI (ρ.1.2.2 - ρ.1.2.1)) dX1_isWord_16 rfl (pk_sub (by omega)) ?_
    refine aw_aload_n (npc := 18) rfl dX1_isWord_17 rfl ?_
    refine aw_callVS (npc := 21) (N := mJ0_length_8abf5) (i := 2) (mc := 0) (ms := 0) (A := []) (S := [.int (nI (ρ.1.2.2 - ρ.1.2.1))]) (L0 := [some (.ref (1000002 + 2))]) dX1_isWord_18 rfl km_J0_length_8abf5 kk_X1_83 (by omega) rfl rfl ⟨rfl, by decide⟩ rfl (Nat.le_of_ble_eq_true rfl) (Nat.zero_add _) (Nat.zero_add _) rfl ?_
    refine c_slen (i := 2) (by omega) ?_
    refine aw_re (S' := [.int 4, .int (nI (ρ.1.2.2 - ρ.1.2.1))]) rfl ?_
    refine aw_icmp_eq (npc := 24) (tgt := 26) dX1_isWord_21 rfl (by decide) (fun hc2 => ?_) (fun hc2 => ?_)
    · have hc2N := (nI_eq (a := (ρ.1.2.2 - ρ.1.2.1)) (b := 4) (by omega) (by omega)).mp hc2
      refine aw_iconst (npc := 27) (v := 0) (by decide) dX1_isWord_26 rfl ?_
      refine aw_istore_n (npc := 28) (L' := [some (.ref 39), some (.ref (1000002 + 2)), some (.int 0)]) dX1_isWord_27 rfl (by decide) rfl rfl ?_
      refine aw_iload_n (npc := 29) rfl dX1_isWord_28 rfl ?_
      refine aw_aload_n (npc := 30) rfl dX1_isWord_29 rfl ?_
      refine aw_callVS (npc := 33) (N := mJ0_length_8abf5) (i := 2) (mc := 0) (ms := 0) (A := []) (S := [.int 0]) (L0 := [some (.ref (1000002 + 2))]) dX1_isWord_30 rfl km_J0_length_8abf5 kk_X1_83 (by omega) rfl rfl ⟨rfl, by decide⟩ rfl (Nat.le_of_ble_eq_true rfl) (Nat.zero_add _) (Nat.zero_add _) rfl ?_
      refine c_slen (i := 2) (by omega) ?_
      refine aw_re (S' := [.int 4, .int 0]) rfl ?_
      refine aw_icmp_ge (npc := 36) (tgt := 66) dX1_isWord_33 rfl (by decide) (fun hc => absurd hc (by decide)) (fun _ => ?_)
      refine aw_aload_n (npc := 37) rfl dX1_isWord_36 rfl ?_
      refine aw_get (npc := 40) dX1_isWord_37 rfl kf_X1_12 Rd10u.1 rfl ?_
      refine aw_get (npc := 43) dX1_isWord_40 rfl kf_X1_76 Rd10u.2.1 rfl ?_
      refine aw_aload_n (npc := 44) rfl dX1_isWord_43 rfl ?_
      refine aw_get (npc := 47) dX1_isWord_44 rfl kf_X1_25 Rd10u.1 rfl ?_
      refine aw_top (y := nI ρ.1.2.1) (m3_10) ?_
      refine aw_iload_n (npc := 48) rfl dX1_isWord_47 rfl ?_
      refine aw_iaddV (npc := 49) (v := nI (ρ.1.2.1 + 0)) dX1_isWord_48 rfl (nI_add _ 0) ?_
      refine aw_iald (npc := 50) (x := tp (ρ.1.2.1 + 0)) (j := (ρ.1.2.1 + 0)) dX1_isWord_49 rfl Rd10u.2.2.1 (am_ix_nI (by omega)) (tl_at (by omega)) ?_
      refine aw_aload_n (npc := 51) rfl dX1_isWord_50 rfl ?_
      refine aw_iload_n (npc := 52) rfl dX1_isWord_51 rfl ?_
      refine aw_callVS (npc := 55) (N := mJ0_charAt_5068e) (i := 2) (mc := 0) (ms := 0) (A := [.int 0]) (S := [.int (tp (ρ.1.2.1 + 0))]) (L0 := [some (.ref (1000002 + 2)), some (.int 0)]) dX1_isWord_52 rfl km_J0_charAt_5068e kk_X1_88 (by omega) rfl rfl ⟨rfl, by decide⟩ rfl (Nat.le_of_ble_eq_true rfl) (Nat.zero_add _) (Nat.zero_add _) rfl ?_
      refine c_sch (i := 2) (k := 0) (by omega) (by decide) ?_
      refine aw_re (S' := [.int (sch 2 0), .int (tp (ρ.1.2.1 + 0))]) rfl ?_
      refine aw_top (y := 102) (by decide) ?_
      refine aw_icmp_eq (npc := 58) (tgt := 60) dX1_isWord_55 rfl (by decide) (fun hc3 => ?_) (fun hc3 => ?_)
      · refine aw_iinc (npc := 63) (v := 1) (L' := [some (.ref 39), some (.ref (1000002 + 2)), some (.int 1)]) dX1_isWord_60 rfl rfl (by decide) (by decide) rfl rfl ?_
        refine aw_goto (npc := 28) dX1_isWord_63 (by decide) ?_
        refine aw_iload_n (npc := 29) rfl dX1_isWord_28 rfl ?_
        refine aw_aload_n (npc := 30) rfl dX1_isWord_29 rfl ?_
        refine aw_callVS (npc := 33) (N := mJ0_length_8abf5) (i := 2) (mc := 0) (ms := 0) (A := []) (S := [.int 1]) (L0 := [some (.ref (1000002 + 2))]) dX1_isWord_30 rfl km_J0_length_8abf5 kk_X1_83 (by omega) rfl rfl ⟨rfl, by decide⟩ rfl (Nat.le_of_ble_eq_true rfl) (Nat.zero_add _) (Nat.zero_add _) rfl ?_
        refine c_slen (i := 2) (by omega) ?_
        refine aw_re (S' := [.int 4, .int 1]) rfl ?_
        refine aw_icmp_ge (npc := 36) (tgt := 66) dX1_isWord_33 rfl (by decide) (fun hc => absurd hc (by decide)) (fun _ => ?_)
        refine aw_aload_n (npc := 37) rfl dX1_isWord_36 rfl ?_
        refine aw_get (npc := 40) dX1_isWord_37 rfl kf_X1_12 Rd10u.1 rfl ?_
        refine aw_get (npc := 43) dX1_isWord_40 rfl kf_X1_76 Rd10u.2.1 rfl ?_
        refine aw_aload_n (npc := 44) rfl dX1_isWord_43 rfl ?_
        refine aw_get (npc := 47) dX1_isWord_44 rfl kf_X1_25 Rd10u.1 rfl ?_
        refine aw_top (y := nI ρ.1.2.1) (m3_10) ?_
        refine aw_iload_n (npc := 48) rfl dX1_isWord_47 rfl ?_
        refine aw_iaddV (npc := 49) (v := nI (ρ.1.2.1 + 1)) dX1_isWord_48 rfl (nI_add _ 1) ?_
        refine aw_iald (npc := 50) (x := tp (ρ.1.2.1 + 1)) (j := (ρ.1.2.1 + 1)) dX1_isWord_49 rfl Rd10u.2.2.1 (am_ix_nI (by omega)) (tl_at (by omega)) ?_
        refine aw_aload_n (npc := 51) rfl dX1_isWord_50 rfl ?_
        refine aw_iload_n (npc := 52) rfl dX1_isWord_51 rfl ?_
        refine aw_callVS (npc := 55) (N := mJ0_charAt_5068e) (i := 2) (mc := 0) (ms := 0) (A := [.int 1]) (S := [.int (tp (ρ.1.2.1 + 1))]) (L0 := [some (.ref (1000002 + 2)), some (.int 1)]) dX1_isWord_52 rfl km_J0_charAt_5068e kk_X1_88 (by omega) rfl rfl ⟨rfl, by decide⟩ rfl (Nat.le_of_ble_eq_true rfl) (Nat.zero_add _) (Nat.zero_add _) rfl ?_
        refine c_sch (i := 2) (k := 1) (by omega) (by decide) ?_
        refine aw_re (S' := [.int (sch 2 1), .int (tp (ρ.1.2.1 + 1))]) rfl ?_
        refine aw_top (y := 105) (by decide) ?_
        refine aw_icmp_eq (npc := 58) (tgt := 60) dX1_isWord_55 rfl (by decide) (fun hc4 => ?_) (fun hc4 => ?_)
        · refine aw_iinc (npc := 63) (v := 2) (L' := [some (.ref 39), some (.ref (1000002 + 2)), some (.int 2)]) dX1_isWord_60 rfl rfl (by decide) (by decide) rfl rfl ?_
          refine aw_goto (npc := 28) dX1_isWord_63 (by decide) ?_
          refine aw_iload_n (npc := 29) rfl dX1_isWord_28 rfl ?_
          refine aw_aload_n (npc := 30) rfl dX1_isWord_29 rfl ?_
          refine aw_callVS (npc := 33) (N := mJ0_length_8abf5) (i := 2) (mc := 0) (ms := 0) (A := []) (S := [.int 2]) (L0 := [some (.ref (1000002 + 2))]) dX1_isWord_30 rfl km_J0_length_8abf5 kk_X1_83 (by omega) rfl rfl ⟨rfl, by decide⟩ rfl (Nat.le_of_ble_eq_true rfl) (Nat.zero_add _) (Nat.zero_add _) rfl ?_
          refine c_slen (i := 2) (by omega) ?_
          refine aw_re (S' := [.int 4, .int 2]) rfl ?_
          refine aw_icmp_ge (npc := 36) (tgt := 66) dX1_isWord_33 rfl (by decide) (fun hc => absurd hc (by decide)) (fun _ => ?_)
          refine aw_aload_n (npc := 37) rfl dX1_isWord_36 rfl ?_
          refine aw_get (npc := 40) dX1_isWord_37 rfl kf_X1_12 Rd10u.1 rfl ?_
          refine aw_get (npc := 43) dX1_isWord_40 rfl kf_X1_76 Rd10u.2.1 rfl ?_
          refine aw_aload_n (npc := 44) rfl dX1_isWord_43 rfl ?_
          refine aw_get (npc := 47) dX1_isWord_44 rfl kf_X1_25 Rd10u.1 rfl ?_
          refine aw_top (y := nI ρ.1.2.1) (m3_10) ?_
          refine aw_iload_n (npc := 48) rfl dX1_isWord_47 rfl ?_
          refine aw_iaddV (npc := 49) (v := nI (ρ.1.2.1 + 2)) dX1_isWord_48 rfl (nI_add _ 2) ?_
          refine aw_iald (npc := 50) (x := tp (ρ.1.2.1 + 2)) (j := (ρ.1.2.1 + 2)) dX1_isWord_49 rfl Rd10u.2.2.1 (am_ix_nI (by omega)) (tl_at (by omega)) ?_
          refine aw_aload_n (npc := 51) rfl dX1_isWord_50 rfl ?_
          refine aw_iload_n (npc := 52) rfl dX1_isWord_51 rfl ?_
          refine aw_callVS (npc := 55) (N := mJ0_charAt_5068e) (i := 2) (mc := 0) (ms := 0) (A := [.int 2]) (S := [.int (tp (ρ.1.2.1 + 2))]) (L0 := [some (.ref (1000002 + 2)), some (.int 2)]) dX1_isWord_52 rfl km_J0_charAt_5068e kk_X1_88 (by omega) rfl rfl ⟨rfl, by decide⟩ rfl (Nat.le_of_ble_eq_true rfl) (Nat.zero_add _) (Nat.zero_add _) rfl ?_
          refine c_sch (i := 2) (k := 2) (by omega) (by decide) ?_
          refine aw_re (S' := [.int (sch 2 2), .int (tp (ρ.1.2.1 + 2))]) rfl ?_
          refine aw_top (y := 110) (by decide) ?_
          refine aw_icmp_eq (npc := 58) (tgt := 60) dX1_isWord_55 rfl (by decide) (fun hc5 => ?_) (fun hc5 => ?_)
          · refine aw_iinc (npc := 63) (v := 3) (L' := [some (.ref 39), some (.ref (1000002 + 2)), some (.int 3)]) dX1_isWord_60 rfl rfl (by decide) (by decide) rfl rfl ?_
            refine aw_goto (npc := 28) dX1_isWord_63 (by decide) ?_
            refine aw_iload_n (npc := 29) rfl dX1_isWord_28 rfl ?_
            refine aw_aload_n (npc := 30) rfl dX1_isWord_29 rfl ?_
            refine aw_callVS (npc := 33) (N := mJ0_length_8abf5) (i := 2) (mc := 0) (ms := 0) (A := []) (S := [.int 3]) (L0 := [some (.ref (1000002 + 2))]) dX1_isWord_30 rfl km_J0_length_8abf5 kk_X1_83 (by omega) rfl rfl ⟨rfl, by decide⟩ rfl (Nat.le_of_ble_eq_true rfl) (Nat.zero_add _) (Nat.zero_add _) rfl ?_
            refine c_slen (i := 2) (by omega) ?_
            refine aw_re (S' := [.int 4, .int 3]) rfl ?_
            refine aw_icmp_ge (npc := 36) (tgt := 66) dX1_isWord_33 rfl (by decide) (fun hc => absurd hc (by decide)) (fun _ => ?_)
            refine aw_aload_n (npc := 37) rfl dX1_isWord_36 rfl ?_
            refine aw_get (npc := 40) dX1_isWord_37 rfl kf_X1_12 Rd10u.1 rfl ?_
            refine aw_get (npc := 43) dX1_isWord_40 rfl kf_X1_76 Rd10u.2.1 rfl ?_
            refine aw_aload_n (npc := 44) rfl dX1_isWord_43 rfl ?_
            refine aw_get (npc := 47) dX1_isWord_44 rfl kf_X1_25 Rd10u.1 rfl ?_
            refine aw_top (y := nI ρ.1.2.1) (m3_10) ?_
            refine aw_iload_n (npc := 48) rfl dX1_isWord_47 rfl ?_
            refine aw_iaddV (npc := 49) (v := nI (ρ.1.2.1 + 3)) dX1_isWord_48 rfl (nI_add _ 3) ?_
            refine aw_iald (npc := 50) (x := tp (ρ.1.2.1 + 3)) (j := (ρ.1.2.1 + 3)) dX1_isWord_49 rfl Rd10u.2.2.1 (am_ix_nI (by omega)) (tl_at (by omega)) ?_
            refine aw_aload_n (npc := 51) rfl dX1_isWord_50 rfl ?_
            refine aw_iload_n (npc := 52) rfl dX1_isWord_51 rfl ?_
            refine aw_callVS (npc := 55) (N := mJ0_charAt_5068e) (i := 2) (mc := 0) (ms := 0) (A := [.int 3]) (S := [.int (tp (ρ.1.2.1 + 3))]) (L0 := [some (.ref (1000002 + 2)), some (.int 3)]) dX1_isWord_52 rfl km_J0_charAt_5068e kk_X1_88 (by omega) rfl rfl ⟨rfl, by decide⟩ rfl (Nat.le_of_ble_eq_true rfl) (Nat.zero_add _) (Nat.zero_add _) rfl ?_
            refine c_sch (i := 2) (k := 3) (by omega) (by decide) ?_
            refine aw_re (S' := [.int (sch 2 3), .int (tp (ρ.1.2.1 + 3))]) rfl ?_
            refine aw_top (y := 101) (by decide) ?_
            refine aw_icmp_eq (npc := 58) (tgt := 60) dX1_isWord_55 rfl (by decide) (fun hc6 => ?_) (fun hc6 => ?_)
            · refine aw_iinc (npc := 63) (v := 4) (L' := [some (.ref 39), some (.ref (1000002 + 2)), some (.int 4)]) dX1_isWord_60 rfl rfl (by decide) (by decide) rfl rfl ?_
              refine aw_goto (npc := 28) dX1_isWord_63 (by decide) ?_
              refine aw_iload_n (npc := 29) rfl dX1_isWord_28 rfl ?_
              refine aw_aload_n (npc := 30) rfl dX1_isWord_29 rfl ?_
              refine aw_callVS (npc := 33) (N := mJ0_length_8abf5) (i := 2) (mc := 0) (ms := 0) (A := []) (S := [.int 4]) (L0 := [some (.ref (1000002 + 2))]) dX1_isWord_30 rfl km_J0_length_8abf5 kk_X1_83 (by omega) rfl rfl ⟨rfl, by decide⟩ rfl (Nat.le_of_ble_eq_true rfl) (Nat.zero_add _) (Nat.zero_add _) rfl ?_
              refine c_slen (i := 2) (by omega) ?_
              refine aw_re (S' := [.int 4, .int 4]) rfl ?_
              refine aw_icmp_ge (npc := 36) (tgt := 66) dX1_isWord_33 rfl (by decide) (fun _ => ?_) (fun hc => absurd (by decide) hc)
              refine aw_iconst (npc := 67) (v := 1) (by decide) dX1_isWord_66 rfl ?_
              refine aw_zret rfl rfl dX1_isWord_67 ?_
              exact k1 ⟨hc1N, by omega, hc3, hc4, hc5, hc6⟩
            · refine aw_iconst (npc := 59) (v := 0) (by decide) dX1_isWord_58 rfl ?_
              refine aw_zret rfl rfl dX1_isWord_59 ?_
              exact k0 (fun z => hc6 z.2.2.2.2.2)
          · refine aw_iconst (npc := 59) (v := 0) (by decide) dX1_isWord_58 rfl ?_
            refine aw_zret rfl rfl dX1_isWord_59 ?_
            exact k0 (fun z => hc5 z.2.2.2.2.1)
        · refine aw_iconst (npc := 59) (v := 0) (by decide) dX1_isWord_58 rfl ?_
          refine aw_zret rfl rfl dX1_isWord_59 ?_
          exact k0 (fun z => hc4 z.2.2.2.1)
      · refine aw_iconst (npc := 59) (v := 0) (by decide) dX1_isWord_58 rfl ?_
        refine aw_zret rfl rfl dX1_isWord_59 ?_
        exact k0 (fun z => hc3 z.2.2.1)
    · have hc2N : ¬ (ρ.1.2.2 - ρ.1.2.1) = 4 := fun z9q => hc2 ((nI_eq (a := (ρ.1.2.2 - ρ.1.2.1)) (b := 4) (by omega) (by omega)).mpr z9q)
      refine aw_iconst (npc := 25) (v := 0) (by decide) dX1_isWord_24 rfl ?_
      refine aw_zret rfl rfl dX1_isWord_25 ?_
      exact k0 (fun z => hc2N (by have z2 := z.2.1; omega))
def kyF (ρ : RS) (k : Int32) : RS := (ρ.1, ρ.2.1, k, ρ.2.2.2)
noncomputable def rkF (L : Nat) (tp : Nat → Int32) (ρ : RS) : RS := cI (wz0 tp ρ) (avF L tp (kyF ρ 0)) (cI (wz1 tp ρ) (avF L tp (kyF ρ 1)) (cI (wz2 tp ρ) (avF L tp (kyF ρ 2)) (flF ρ)))
theorem rx_c {ρ ρ' : RS} {L : Nat} {tp : Nat → Int32} {h : am_H} (e : ρ = ρ') (H : RX ρ L tp h) : RX ρ' L tp h := by
  subst e; exact H
set_option maxHeartbeats 4000000 in
set_option maxRecDepth 100000 in
theorem r_key {X : List Int32} {d rc rs n : Nat} {Q : am_Q} {h : am_H} {L : Nat} {tp : Nat → Int32} {ρ : RS} (H : RX ρ L tp h) (Wf : WR L tp ρ) (hq : ∀ h9, RX (rkF L tp ρ) L tp h9 → am_fp (fun k => k < 39 ∨ 43 ≤ k) h9 h → Q none n h9) : AW X mX1_readKey (d + 9) rc rs 0 [some (.ref 39)] [] n h Q := by
  obtain ⟨wk, w96, wcl, wob, wog, wft⟩ := id Wf
  have we := wk.1
  have wf := wk.2.1
  have wt := wk.2.2.1
  refine aw_aload_n (npc := 1) rfl dX1_readKey_0 rfl ?_
  refine aw_ldcS (npc := 3) (i := 0) dX1_readKey_1 rfl rfl rfl ?_
  obtain ⟨r11u, cd11u, Rd11u, m1_11, m2_11, m3_11, m4_11, m5_11, m7_11, m8_11, m9_11, m10_11, mc_11⟩ := id H
  refine aw_callV (npc := 6) (N := mX1_isWord) (b := 39) (mc := 0) (ms := 0) (A := [.ref (1000002 + 0)]) (S := []) (L0 := [some (.ref 39), some (.ref (1000002 + 0)), none]) dX1_readKey_3 rfl km_X1_isWord kk_X1_94 Rd11u.1 ⟨by decide, rfl⟩ rfl ⟨rfl, by decide⟩ rfl (Nat.le_of_ble_eq_true rfl) (Nat.zero_add _) (Nat.zero_add _) rfl ?_
  refine r_isWord0 H Wf (fun hw1 => ?_) (fun hw1 => ?_)
  · refine aw_re (S' := [.int 1]) rfl ?_
    refine aw_if_eq (npc := 9) (tgt := 17) dX1_readKey_6 rfl (by decide) (fun hc => absurd hc (by decide)) (fun _ => ?_)
    refine aw_aload_n (npc := 10) rfl dX1_readKey_9 rfl ?_
    refine aw_iconst (npc := 11) (v := 0) (by decide) dX1_readKey_10 rfl ?_
    refine aw_put (npc := 14) dX1_readKey_11 rfl kf_X1_31 Rd11u.1 (Nat.le_of_ble_eq_true rfl) (am_ok_int _) rfl ?_
    have Rd2 := rd_r5 (v := 0) Rd11u
    refine aw_goto (npc := 56) dX1_readKey_14 (by decide) ?_
    have Hp3 : RX (kyF ρ 0) L tp _ := ⟨_, _, Rd2, (((pk_un (by omega))).trans m1_11), (((pk_un (by omega))).trans m2_11), (((pk_un (by omega))).trans m3_11), (((pk_un (by omega))).trans m4_11), (pk_us), (((pk_un (by omega))).trans m7_11), (((pk_un (by omega))).trans m8_11), (((pk_un (by omega))).trans m9_11), (((pk_un (by omega))).trans m10_11), mc_11⟩
    have Wf4 : WR L tp (kyF ρ 0) := Wf
    refine aw_aload_n (npc := 57) rfl dX1_readKey_56 rfl ?_
    obtain ⟨r12u, cd12u, Rd12u, m1_12, m2_12, m3_12, m4_12, m5_12, m7_12, m8_12, m9_12, m10_12, mc_12⟩ := id Hp3
    refine aw_callV (npc := 60) (N := mX1_advance) (b := 39) (mc := 0) (ms := 0) (A := []) (S := []) (L0 := [some (.ref 39), none, none, none]) dX1_readKey_57 rfl km_X1_advance kk_X1_50 Rd12u.1 ⟨by decide, rfl⟩ rfl ⟨rfl, by decide⟩ rfl (Nat.le_of_ble_eq_true rfl) (Nat.zero_add _) (Nat.zero_add _) rfl ?_
    refine r_adv  Hp3 Wf4 (fun hp5 Hr6 fz7 => ?_)
    have fyfz7 : ∀ k, (k < 39 ∨ 43 ≤ k) → hp5 k = _ := fun k hk => fz7 k hk
    have Wf8 : WR L tp (avF L tp (kyF ρ 0)) := wr_av Wf4
    refine aw_vret rfl dX1_readKey_60 ?_
    exact hq _ (rx_c (by simp [rkF, cI, hw1]) Hr6) (am_fpT (fun k (hk : k < 39 ∨ 43 ≤ k) => fyfz7 k (by omega)) (am_fpU (show ¬ (39 < 39 ∨ 43 ≤ 39) by omega) am_fp0))
  · refine aw_re (S' := [.int 0]) rfl ?_
    refine aw_if_eq (npc := 9) (tgt := 17) dX1_readKey_6 rfl (by decide) (fun _ => ?_) (fun hc => absurd (by decide) hc)
    refine aw_aload_n (npc := 18) rfl dX1_readKey_17 rfl ?_
    refine aw_ldcS (npc := 20) (i := 1) dX1_readKey_18 rfl rfl rfl ?_
    refine aw_callV (npc := 23) (N := mX1_isWord) (b := 39) (mc := 0) (ms := 0) (A := [.ref (1000002 + 1)]) (S := []) (L0 := [some (.ref 39), some (.ref (1000002 + 1)), none]) dX1_readKey_20 rfl km_X1_isWord kk_X1_94 Rd11u.1 ⟨by decide, rfl⟩ rfl ⟨rfl, by decide⟩ rfl (Nat.le_of_ble_eq_true rfl) (Nat.zero_add _) (Nat.zero_add _) rfl ?_
    refine r_isWord1 H Wf (fun hw9 => ?_) (fun hw9 => ?_)
    · refine aw_re (S' := [.int 1]) rfl ?_
      refine aw_if_eq (npc := 26) (tgt := 34) dX1_readKey_23 rfl (by decide) (fun hc => absurd hc (by decide)) (fun _ => ?_)
      refine aw_aload_n (npc := 27) rfl dX1_readKey_26 rfl ?_
      refine aw_iconst (npc := 28) (v := 1) (by decide) dX1_readKey_27 rfl ?_
      refine aw_put (npc := 31) dX1_readKey_28 rfl kf_X1_31 Rd11u.1 (Nat.le_of_ble_eq_true rfl) (am_ok_int _) rfl ?_
      have Rd10 := rd_r5 (v := 1) Rd11u
      refine aw_goto (npc := 56) dX1_readKey_31 (by decide) ?_
      have Hp11 : RX (kyF ρ 1) L tp _ := ⟨_, _, Rd10, (((pk_un (by omega))).trans m1_11), (((pk_un (by omega))).trans m2_11), (((pk_un (by omega))).trans m3_11), (((pk_un (by omega))).trans m4_11), (pk_us), (((pk_un (by omega))).trans m7_11), (((pk_un (by omega))).trans m8_11), (((pk_un (by omega))).trans m9_11), (((pk_un (by omega))).trans m10_11), mc_11⟩
      have Wf12 : WR L tp (kyF ρ 1) := Wf
      refine aw_aload_n (npc := 57) rfl dX1_readKey_56 rfl ?_
      obtain ⟨r13u, cd13u, Rd13u, m1_13, m2_13, m3_13, m4_13, m5_13, m7_13, m8_13, m9_13, m10_13, mc_13⟩ := id Hp11
      refine aw_callV (npc := 60) (N := mX1_advance) (b := 39) (mc := 0) (ms := 0) (A := []) (S := []) (L0 := [some (.ref 39), none, none, none]) dX1_readKey_57 rfl km_X1_advance kk_X1_50 Rd13u.1 ⟨by decide, rfl⟩ rfl ⟨rfl, by decide⟩ rfl (Nat.le_of_ble_eq_true rfl) (Nat.zero_add _) (Nat.zero_add _) rfl ?_
      refine r_adv  Hp11 Wf12 (fun hp13 Hr14 fz15 => ?_)
      have fyfz15 : ∀ k, (k < 39 ∨ 43 ≤ k) → hp13 k = _ := fun k hk => fz15 k hk
      have Wf16 : WR L tp (avF L tp (kyF ρ 1)) := wr_av Wf12
      refine aw_vret rfl dX1_readKey_60 ?_
      exact hq _ (rx_c (by simp [rkF, cI, hw1, hw9]) Hr14) (am_fpT (fun k (hk : k < 39 ∨ 43 ≤ k) => fyfz15 k (by omega)) (am_fpU (show ¬ (39 < 39 ∨ 43 ≤ 39) by omega) am_fp0))
    · refine aw_re (S' := [.int 0]) rfl ?_
      refine aw_if_eq (npc := 26) (tgt := 34) dX1_readKey_23 rfl (by decide) (fun _ => ?_) (fun hc => absurd (by decide) hc)
      refine aw_aload_n (npc := 35) rfl dX1_readKey_34 rfl ?_
      refine aw_ldcS (npc := 37) (i := 2) dX1_readKey_35 rfl rfl rfl ?_
      refine aw_callV (npc := 40) (N := mX1_isWord) (b := 39) (mc := 0) (ms := 0) (A := [.ref (1000002 + 2)]) (S := []) (L0 := [some (.ref 39), some (.ref (1000002 + 2)), none]) dX1_readKey_37 rfl km_X1_isWord kk_X1_94 Rd11u.1 ⟨by decide, rfl⟩ rfl ⟨rfl, by decide⟩ rfl (Nat.le_of_ble_eq_true rfl) (Nat.zero_add _) (Nat.zero_add _) rfl ?_
      refine r_isWord2 H Wf (fun hw17 => ?_) (fun hw17 => ?_)
      · refine aw_re (S' := [.int 1]) rfl ?_
        refine aw_if_eq (npc := 43) (tgt := 51) dX1_readKey_40 rfl (by decide) (fun hc => absurd hc (by decide)) (fun _ => ?_)
        refine aw_aload_n (npc := 44) rfl dX1_readKey_43 rfl ?_
        refine aw_iconst (npc := 45) (v := 2) (by decide) dX1_readKey_44 rfl ?_
        refine aw_put (npc := 48) dX1_readKey_45 rfl kf_X1_31 Rd11u.1 (Nat.le_of_ble_eq_true rfl) (am_ok_int _) rfl ?_
        have Rd18 := rd_r5 (v := 2) Rd11u
        refine aw_goto (npc := 56) dX1_readKey_48 (by decide) ?_
        have Hp19 : RX (kyF ρ 2) L tp _ := ⟨_, _, Rd18, (((pk_un (by omega))).trans m1_11), (((pk_un (by omega))).trans m2_11), (((pk_un (by omega))).trans m3_11), (((pk_un (by omega))).trans m4_11), (pk_us), (((pk_un (by omega))).trans m7_11), (((pk_un (by omega))).trans m8_11), (((pk_un (by omega))).trans m9_11), (((pk_un (by omega))).trans m10_11), mc_11⟩
        have Wf20 : WR L tp (kyF ρ 2) := Wf
        refine aw_aload_n (npc := 57) rfl dX1_readKey_56 rfl ?_
        obtain ⟨r14u, cd14u, Rd14u, m1_14, m2_14, m3_14, m4_14, m5_14, m7_14, m8_14, m9_14, m10_14, mc_14⟩ := id Hp19
        refine aw_callV (npc := 60) (N := mX1_advance) (b := 39) (mc := 0) (ms := 0) (A := []) (S := []) (L0 := [some (.ref 39), none, none, none]) dX1_readKey_57 rfl km_X1_advance kk_X1_50 Rd14u.1 ⟨by decide, rfl⟩ rfl ⟨rfl, by decide⟩ rfl (Nat.le_of_ble_eq_true rfl) (Nat.zero_add _) (Nat.zero_add _) rfl ?_
        refine r_adv  Hp19 Wf20 (fun hp21 Hr22 fz23 => ?_)
        have fyfz23 : ∀ k, (k < 39 ∨ 43 ≤ k) → hp21 k = _ := fun k hk => fz23 k hk
        have Wf24 : WR L tp (avF L tp (kyF ρ 2)) := wr_av Wf20
        refine aw_vret rfl dX1_readKey_60 ?_
        exact hq _ (rx_c (by simp [rkF, cI, hw1, hw9, hw17]) Hr22) (am_fpT (fun k (hk : k < 39 ∨ 43 ≤ k) => fyfz23 k (by omega)) (am_fpU (show ¬ (39 < 39 ∨ 43 ≤ 39) by omega) am_fp0))
      · refine aw_re (S' := [.int 0]) rfl ?_
        refine aw_if_eq (npc := 43) (tgt := 51) dX1_readKey_40 rfl (by decide) (fun _ => ?_) (fun hc => absurd (by decide) hc)
        refine aw_aload_n (npc := 52) rfl dX1_readKey_51 rfl ?_
        refine aw_callV (npc := 55) (N := mX1_fail) (b := 39) (mc := 0) (ms := 0) (A := []) (S := []) (L0 := [some (.ref 39)]) dX1_readKey_52 rfl km_X1_fail kk_X1_59 Rd11u.1 ⟨by decide, rfl⟩ rfl ⟨rfl, by decide⟩ rfl (Nat.le_of_ble_eq_true rfl) (Nat.zero_add _) (Nat.zero_add _) rfl ?_
        refine r_fail  H Wf (fun hp25 Hr26 fz27 => ?_)
        have fyfz27 : ∀ k, (k < 39 ∨ 43 ≤ k) → hp25 k = _ := fun k hk => fz27 k hk
        have Wf28 : WR L tp (flF ρ) := wr_fl Wf
        refine aw_vret rfl dX1_readKey_55 ?_
        exact hq _ (rx_c (by simp [rkF, cI, hw1, hw9, hw17]) Hr26) (am_fpT (fun k (hk : k < 39 ∨ 43 ≤ k) => fyfz27 k (by omega)) am_fp0)
noncomputable def cbF (L : Nat) (tp : Nat → Int32) (ρ : RS) : RS := cI (isSg tp ρ 41) (avF L tp ρ) (flF ρ)
set_option maxHeartbeats 4000000 in
set_option maxRecDepth 100000 in
theorem r_close {X : List Int32} {d rc rs n : Nat} {Q : am_Q} {h : am_H} {L : Nat} {tp : Nat → Int32} {ρ : RS} (H : RX ρ L tp h) (Wf : WR L tp ρ) (hq : ∀ h9, RX (cbF L tp ρ) L tp h9 → am_fp (fun k => k < 39 ∨ 43 ≤ k) h9 h → Q none n h9) : AW X mX1_closeBracket (d + 6) rc rs 0 [some (.ref 39)] [] n h Q := by
  refine aw_aload_n (npc := 1) rfl dX1_closeBracket_0 rfl ?_
  refine aw_bipush (npc := 3) (v := 41) (by decide) dX1_closeBracket_1 rfl ?_
  obtain ⟨r15u, cd15u, Rd15u, m1_15, m2_15, m3_15, m4_15, m5_15, m7_15, m8_15, m9_15, m10_15, mc_15⟩ := id H
  refine aw_callV (npc := 6) (N := mX1_isSign) (b := 39) (mc := 0) (ms := 0) (A := [.int 41]) (S := []) (L0 := [some (.ref 39), some (.int 41)]) dX1_closeBracket_3 rfl km_X1_isSign kk_X1_105 Rd15u.1 ⟨by decide, rfl⟩ rfl ⟨rfl, by decide⟩ rfl (Nat.le_of_ble_eq_true rfl) (Nat.zero_add _) (Nat.zero_add _) rfl ?_
  refine r_isSign (c := 41) H Wf (fun hg1 => ?_) (fun hg1 => ?_)
  · refine aw_re (S' := [.int 1]) rfl ?_
    refine aw_if_eq (npc := 9) (tgt := 16) dX1_closeBracket_6 rfl (by decide) (fun hc => absurd hc (by decide)) (fun _ => ?_)
    refine aw_aload_n (npc := 10) rfl dX1_closeBracket_9 rfl ?_
    refine aw_callV (npc := 13) (N := mX1_advance) (b := 39) (mc := 0) (ms := 0) (A := []) (S := []) (L0 := [some (.ref 39), none, none, none]) dX1_closeBracket_10 rfl km_X1_advance kk_X1_50 Rd15u.1 ⟨by decide, rfl⟩ rfl ⟨rfl, by decide⟩ rfl (Nat.le_of_ble_eq_true rfl) (Nat.zero_add _) (Nat.zero_add _) rfl ?_
    refine r_adv  H Wf (fun hp2 Hr3 fz4 => ?_)
    have fyfz4 : ∀ k, (k < 39 ∨ 43 ≤ k) → hp2 k = _ := fun k hk => fz4 k hk
    have Wf5 : WR L tp (avF L tp ρ) := wr_av Wf
    refine aw_goto (npc := 20) dX1_closeBracket_13 (by decide) ?_
    refine aw_vret rfl dX1_closeBracket_20 ?_
    exact hq _ (rx_c (by simp [cbF, cI, hg1]) Hr3) (am_fpT (fun k (hk : k < 39 ∨ 43 ≤ k) => fyfz4 k (by omega)) am_fp0)
  · refine aw_re (S' := [.int 0]) rfl ?_
    refine aw_if_eq (npc := 9) (tgt := 16) dX1_closeBracket_6 rfl (by decide) (fun _ => ?_) (fun hc => absurd (by decide) hc)
    refine aw_aload_n (npc := 17) rfl dX1_closeBracket_16 rfl ?_
    refine aw_callV (npc := 20) (N := mX1_fail) (b := 39) (mc := 0) (ms := 0) (A := []) (S := []) (L0 := [some (.ref 39)]) dX1_closeBracket_17 rfl km_X1_fail kk_X1_59 Rd15u.1 ⟨by decide, rfl⟩ rfl ⟨rfl, by decide⟩ rfl (Nat.le_of_ble_eq_true rfl) (Nat.zero_add _) (Nat.zero_add _) rfl ?_
    refine r_fail  H Wf (fun hp6 Hr7 fz8 => ?_)
    have fyfz8 : ∀ k, (k < 39 ∨ 43 ≤ k) → hp6 k = _ := fun k hk => fz8 k hk
    have Wf9 : WR L tp (flF ρ) := wr_fl Wf
    refine aw_vret rfl dX1_closeBracket_20 ?_
    exact hq _ (rx_c (by simp [cbF, cI, hg1]) Hr7) (am_fpT (fun k (hk : k < 39 ∨ 43 ≤ k) => fyfz8 k (by omega)) am_fp0)
theorem wr_c {L : Nat} {tp : Nat → Int32} {p : Prop} {a b : RS} (ha : p → WR L tp a) (hb : ¬ p → WR L tp b) : WR L tp (cI p a b) := by
  by_cases q : p
  · rw [cI_t q]; exact ha q
  · rw [cI_f q]; exact hb q
theorem wr_cb {L : Nat} {tp : Nat → Int32} {ρ : RS} (h : WR L tp ρ) : WR L tp (cbF L tp ρ) := wr_c (fun _ => wr_av h) (fun _ => wr_fl h)
theorem wr_ky {L : Nat} {tp : Nat → Int32} {ρ : RS} {k : Int32} (h : WR L tp ρ) : WR L tp (kyF ρ k) := h
theorem wr_rk {L : Nat} {tp : Nat → Int32} {ρ : RS} (h : WR L tp ρ) : WR L tp (rkF L tp ρ) := wr_c (fun _ => wr_av (wr_ky h)) (fun _ => wr_c (fun _ => wr_av (wr_ky h)) (fun _ => wr_c (fun _ => wr_av (wr_ky h)) (fun _ => wr_fl h)))
noncomputable def lpF (L : Nat) (tp : Nat → Int32) (G : RS → RS) (T : RS → Prop) : Nat → RS → RS
  | 0, ρ => ρ
  | m + 1, ρ => cI (T ρ) (lpF L tp G T m (emF (-(tp ρ.1.2.1)) (G (avF L tp ρ)))) ρ
def sgP (tp : Nat → Int32) (ρ : RS) : Prop := isSg tp ρ 42 ∨ isSg tp ρ 47
def sgS (tp : Nat → Int32) (ρ : RS) : Prop := isSg tp ρ 43 ∨ isSg tp ρ 45
def sgT (tp : Nat → Int32) (ρ : RS) : Prop := isSg tp ρ 60 ∨ isSg tp ρ 61 ∨ isSg tp ρ 62
noncomputable def pdF (L : Nat) (tp : Nat → Int32) (P : RS → RS) (ρ : RS) : RS := lpF L tp P (sgP tp) 96 (P ρ)
noncomputable def smF (L : Nat) (tp : Nat → Int32) (P : RS → RS) (ρ : RS) : RS := lpF L tp (pdF L tp P) (sgS tp) 96 (pdF L tp P ρ)
noncomputable def tsG (L : Nat) (tp : Nat → Int32) (G : RS → RS) (ρ : RS) : RS := cI (sgT tp ρ) (emF (-(tp ρ.1.2.1)) (G (avF L tp ρ))) ρ
noncomputable def tsF (L : Nat) (tp : Nat → Int32) (P : RS → RS) (ρ : RS) : RS := tsG L tp (smF L tp P) (smF L tp P ρ)
noncomputable def anF (L : Nat) (tp : Nat → Int32) (P : RS → RS) (ρ : RS) : RS := lpF L tp (tsF L tp P) (fun ρ => isSg tp ρ 38) 96 (tsF L tp P ρ)
noncomputable def orF (L : Nat) (tp : Nat → Int32) (P : RS → RS) (ρ : RS) : RS := lpF L tp (anF L tp P) (fun ρ => isSg tp ρ 124) 96 (anF L tp P ρ)
noncomputable def pcF (L : Nat) (tp : Nat → Int32) : Nat → RS → RS
  | 0, ρ => ρ
  | D + 1, ρ => cI (ρ.2.1 = none) (cI (ρ.1.1 = 2) (avF L tp (eoF (numF tp ρ) ρ)) (match nameO tp ρ with
    | some j => avF L tp (eoF (-1 - nI j) ρ)
    | none => cI (isSg tp ρ 33 ∧ ρ.2.2.2.2.2.2 < 8) (emF (-33) (ogF (pcF L tp D (avF L tp (ogF ρ (ρ.2.2.2.2.2.2 + 1)))) ρ.2.2.2.2.2.2))
      (cI (isSg tp ρ 40 ∧ ρ.2.2.2.2.2.1 < 8) (cbF L tp (obF (orF L tp (pcF L tp D) (avF L tp (obF ρ (ρ.2.2.2.2.2.1 + 1)))) ρ.2.2.2.2.2.1)) (flF ρ)))) ρ
def kp (ρ' ρ : RS) : Prop := ρ'.2.2.1 = ρ.2.2.1 ∧ ρ'.2.2.2.2.2 = ρ.2.2.2.2.2
def PO (L : Nat) (tp : Nat → Int32) (D : Nat) (P : RS → RS) : Prop := ∀ ρ, WR L tp ρ → 17 ≤ D + ρ.2.2.2.2.2.1 + ρ.2.2.2.2.2.2 → WR L tp (P ρ) ∧ kp (P ρ) ρ
theorem lp_ok {L : Nat} {tp : Nat → Int32} {D : Nat} {G : RS → RS} {T : RS → Prop} (hG : PO L tp D G) : ∀ (m : Nat), PO L tp D (lpF L tp G T m) := by
  intro m
  induction m with
  | zero => intro ρ h _; exact ⟨h, rfl, rfl⟩
  | succ m ih =>
    intro ρ h hd
    show WR L tp (cI (T ρ) _ ρ) ∧ kp (cI (T ρ) _ ρ) ρ
    by_cases q : T ρ
    · rw [cI_t q]
      have g := hG (avF L tp ρ) (wr_av h) hd
      have e := wr_em (c := -(tp ρ.1.2.1)) g.1
      have hob : (emF (-(tp ρ.1.2.1)) (G (avF L tp ρ))).2.2.2.2.2 = ρ.2.2.2.2.2 := g.2.2
      have r := ih _ e (by rw [show (emF (-(tp ρ.1.2.1)) (G (avF L tp ρ))).2.2.2.2.2.1 = ρ.2.2.2.2.2.1 from congrArg (fun z => z.1) hob, show (emF (-(tp ρ.1.2.1)) (G (avF L tp ρ))).2.2.2.2.2.2 = ρ.2.2.2.2.2.2 from congrArg (fun z => z.2) hob]; exact hd)
      exact ⟨r.1, r.2.1.trans g.2.1, r.2.2.trans hob⟩
    · rw [cI_f q]; exact ⟨h, rfl, rfl⟩
theorem sq_ok {L : Nat} {tp : Nat → Int32} {D : Nat} {G K : RS → RS} (hG : PO L tp D G) (hK : PO L tp D K) : PO L tp D (fun ρ => K (G ρ)) := fun ρ h hd => by
  have g := hG ρ h hd
  have k := hK (G ρ) g.1 (by rw [show (G ρ).2.2.2.2.2.1 = ρ.2.2.2.2.2.1 from congrArg (fun z => z.1) g.2.2, show (G ρ).2.2.2.2.2.2 = ρ.2.2.2.2.2.2 from congrArg (fun z => z.2) g.2.2]; exact hd)
  exact ⟨k.1, k.2.1.trans g.2.1, k.2.2.trans g.2.2⟩
theorem ts_ok {L : Nat} {tp : Nat → Int32} {D : Nat} {G : RS → RS} (hG : PO L tp D G) : PO L tp D (tsG L tp G) := fun ρ h hd => by
  unfold tsG
  by_cases q : sgT tp ρ
  · rw [cI_t q]
    have g := hG (avF L tp ρ) (wr_av h) hd
    exact ⟨wr_em g.1, g.2⟩
  · rw [cI_f q]; exact ⟨h, rfl, rfl⟩
theorem pd_ok {L : Nat} {tp : Nat → Int32} {D : Nat} {P : RS → RS} (hP : PO L tp D P) : PO L tp D (pdF L tp P) := sq_ok (G := P) (K := lpF L tp P (sgP tp) 96) hP (lp_ok hP 96)
theorem sm_ok {L : Nat} {tp : Nat → Int32} {D : Nat} {P : RS → RS} (hP : PO L tp D P) : PO L tp D (smF L tp P) := sq_ok (G := pdF L tp P) (K := lpF L tp (pdF L tp P) (sgS tp) 96) (pd_ok hP) (lp_ok (pd_ok hP) 96)
theorem tsF_ok {L : Nat} {tp : Nat → Int32} {D : Nat} {P : RS → RS} (hP : PO L tp D P) : PO L tp D (tsF L tp P) := sq_ok (G := smF L tp P) (K := tsG L tp (smF L tp P)) (sm_ok hP) (ts_ok (sm_ok hP))
theorem an_ok {L : Nat} {tp : Nat → Int32} {D : Nat} {P : RS → RS} (hP : PO L tp D P) : PO L tp D (anF L tp P) := sq_ok (G := tsF L tp P) (K := lpF L tp (tsF L tp P) (fun ρ => isSg tp ρ 38) 96) (tsF_ok hP) (lp_ok (tsF_ok hP) 96)
theorem or_ok {L : Nat} {tp : Nat → Int32} {D : Nat} {P : RS → RS} (hP : PO L tp D P) : PO L tp D (orF L tp P) := sq_ok (G := anF L tp P) (K := lpF L tp (anF L tp P) (fun ρ => isSg tp ρ 124) 96) (an_ok hP) (lp_ok (an_ok hP) 96)
theorem pc_ok {L : Nat} {tp : Nat → Int32} : ∀ (D : Nat), PO L tp D (pcF L tp D) := by
  intro D
  induction D with
  | zero => intro ρ h hd; exact ⟨h, rfl, rfl⟩
  | succ D ih =>
    intro ρ h hd
    unfold pcF
    by_cases q1 : ρ.2.1 = none
    · rw [cI_t q1]
      by_cases q2 : ρ.1.1 = 2
      · rw [cI_t q2]; exact ⟨wr_av (wr_eo h), rfl, rfl⟩
      · rw [cI_f q2]
        cases nameO tp ρ with
        | some j => exact ⟨wr_av (wr_eo h), rfl, rfl⟩
        | none =>
          show WR L tp (cI _ _ _) ∧ kp (cI _ _ _) ρ
          by_cases q3 : isSg tp ρ 33 ∧ ρ.2.2.2.2.2.2 < 8
          · rw [cI_t q3]
            have g := ih (avF L tp (ogF ρ (ρ.2.2.2.2.2.2 + 1))) (wr_av (wr_og (by omega) h)) (by show 17 ≤ D + ρ.2.2.2.2.2.1 + (ρ.2.2.2.2.2.2 + 1); omega)
            refine ⟨wr_em (wr_og h.2.2.2.2.1 g.1), g.2.1, ?_⟩
            have e1 := congrArg (fun z : Nat × Nat => z.1) g.2.2
            exact Prod.ext e1 rfl
          · rw [cI_f q3]
            by_cases q4 : isSg tp ρ 40 ∧ ρ.2.2.2.2.2.1 < 8
            · rw [cI_t q4]
              have g := or_ok ih (avF L tp (obF ρ (ρ.2.2.2.2.2.1 + 1))) (wr_av (wr_ob (by omega) h)) (by show 17 ≤ D + (ρ.2.2.2.2.2.1 + 1) + ρ.2.2.2.2.2.2; omega)
              have e1 := congrArg (fun z : Nat × Nat => z.2) g.2.2
              have e9 : kp (obF (orF L tp (pcF L tp D) (avF L tp (obF ρ (ρ.2.2.2.2.2.1 + 1)))) ρ.2.2.2.2.2.1) ρ := ⟨g.2.1, Prod.ext rfl e1⟩
              refine ⟨wr_cb (wr_ob h.2.2.2.1 g.1), ?_⟩
              unfold cbF
              generalize obF (orF L tp (pcF L tp D) (avF L tp (obF ρ (ρ.2.2.2.2.2.1 + 1)))) ρ.2.2.2.2.2.1 = Z at e9 ⊢
              by_cases q5 : isSg tp Z 41
              · rw [cI_t q5]; exact e9
              · rw [cI_f q5]; exact e9
            · rw [cI_f q4]; exact ⟨wr_fl h, rfl, rfl⟩
    · rw [cI_f q1]; exact ⟨h, rfl, rfl⟩
def CM (L : Nat) (tp : Nat → Int32) (M : am_MD) (L0 : am_L) (q D : Nat) (G : RS → RS) : Prop := ∀ (X : List Int32) (d rc rs n : Nat) (Q : am_Q) (h : am_H) (ρ : RS), RX ρ L tp h → WR L tp ρ → 17 ≤ D + ρ.2.2.2.2.2.1 + ρ.2.2.2.2.2.2 → (∀ h9, RX (G ρ) L tp h9 → am_fp (fun k => k < 39 ∨ 43 ≤ k) h9 h → Q none n h9) → AW X M (d + q) rc rs 0 L0 [] n h Q
theorem aw_dd {X : List Int32} {M : am_MD} {d d2 rc rs pc n : Nat} {L : am_L} {S : List Value} {h : am_H} {Q : am_Q} (e : d = d2) (k : AW X M d2 rc rs pc L S n h Q) : AW X M d rc rs pc L S n h Q := e ▸ k
theorem kp_d {D : Nat} {a b : RS} (h : kp a b) (hd : 17 ≤ D + b.2.2.2.2.2.1 + b.2.2.2.2.2.2) : 17 ≤ D + a.2.2.2.2.2.1 + a.2.2.2.2.2.2 := by
  rw [h.2]; exact hd
set_option maxHeartbeats 4000000 in
set_option maxRecDepth 100000 in
theorem r_prodL {L : Nat} {tp : Nat → Int32} {D q : Nat} {P : RS → RS} (hG : CM L tp mX1_readPiece [some (.ref 39)] q D P) (hO : PO L tp D (P)) {X : List Int32} {d rc rs n : Nat} {Q : am_Q} : ∀ (m i : Nat), i + m = 96 → ∀ (v2 : Option Value) (ρ : RS) (h : am_H), RX ρ L tp h → WR L tp ρ → 17 ≤ D + ρ.2.2.2.2.2.1 + ρ.2.2.2.2.2.2 → (∀ h9, RX (lpF L tp (P) (sgP tp) m ρ) L tp h9 → am_fp (fun k => k < 39 ∨ 43 ≤ k) h9 h → Q none n h9) → AW X mX1_readProduct (d + q + 5) rc rs 6 [some (.ref 39), some (.int (nI i)), v2] [] n h Q := by
  intro m
  induction m with
  | zero =>
    intro i hi v2 ρ h H Wf hd hq
    obtain rfl : i = 96 := by omega
    refine aw_iload_n (npc := 7) rfl dX1_readProduct_6 rfl ?_
    refine aw_bipush (npc := 9) (v := 96) (by decide) dX1_readProduct_7 rfl ?_
    refine aw_icmp_ge (npc := 12) (tgt := 63) dX1_readProduct_9 rfl (by decide) (fun _ => ?_) (fun hc => absurd (nI_le (a := 96) (b := 96) (by omega) (by omega)) hc)
    refine aw_vret rfl dX1_readProduct_63 ?_
    exact hq _ H am_fp0
  | succ m ih =>
    intro i hi v2 ρ h H Wf hd hq
    obtain ⟨wk, w96, wcl, wob, wog, wft⟩ := id Wf
    have we := wk.1
    have wf := wk.2.1
    refine aw_iload_n (npc := 7) rfl dX1_readProduct_6 rfl ?_
    refine aw_bipush (npc := 9) (v := 96) (by decide) dX1_readProduct_7 rfl ?_
    refine aw_icmp_ge (npc := 12) (tgt := 63) dX1_readProduct_9 rfl (by decide) (fun hc => absurd hc (nI_ge (a := i) (b := 96) (by omega) (by omega))) (fun _ => ?_)
    refine aw_aload_n (npc := 13) rfl dX1_readProduct_12 rfl ?_
    refine aw_bipush (npc := 15) (v := 42) (by decide) dX1_readProduct_13 rfl ?_
    obtain ⟨r1u, cd1u, Rd1u, m1_1, m2_1, m3_1, m4_1, m5_1, m7_1, m8_1, m9_1, m10_1, mc_1⟩ := id H
    refine aw_callV (npc := 18) (N := mX1_isSign) (b := 39) (mc := 0) (ms := 0) (A := [.int 42]) (S := []) (L0 := [some (.ref 39), some (.int 42)]) dX1_readProduct_15 rfl km_X1_isSign kk_X1_105 Rd1u.1 ⟨by decide, rfl⟩ rfl ⟨rfl, by decide⟩ rfl (Nat.le_of_ble_eq_true rfl) (Nat.zero_add _) (Nat.zero_add _) rfl ?_
    refine r_isSign (c := 42) H Wf (fun hg2 => ?_) (fun hg2 => ?_)
    · refine aw_re (S' := [.int 1]) rfl ?_
      refine aw_if_ne (npc := 21) (tgt := 30) dX1_readProduct_18 rfl (by decide) (fun _ => ?_) (fun hc => absurd hc (by decide))
      have wf3 : ρ.1.2.1 < ρ.1.2.2 := wk.2.2.2.2.2.1 (by have z := hg2.2.1; omega)
      refine aw_aload_n (npc := 31) rfl dX1_readProduct_30 rfl ?_
      refine aw_get (npc := 34) dX1_readProduct_31 rfl kf_X1_12 Rd1u.1 rfl ?_
      refine aw_get (npc := 37) dX1_readProduct_34 rfl kf_X1_76 Rd1u.2.1 rfl ?_
      refine aw_aload_n (npc := 38) rfl dX1_readProduct_37 rfl ?_
      refine aw_get (npc := 41) dX1_readProduct_38 rfl kf_X1_25 Rd1u.1 rfl ?_
      refine aw_top (y := nI ρ.1.2.1) (m3_1) ?_
      refine aw_iald (npc := 42) (x := tp ρ.1.2.1) (j := ρ.1.2.1) dX1_readProduct_41 rfl Rd1u.2.2.1 (am_ix_nI (by omega)) (tl_at (by omega)) ?_
      refine aw_istore_n (npc := 43) (L' := [some (.ref 39), some (.int (nI i)), some (.int (tp ρ.1.2.1))]) dX1_readProduct_42 rfl (by decide) rfl rfl ?_
      refine aw_aload_n (npc := 44) rfl dX1_readProduct_43 rfl ?_
      refine aw_callV (npc := 47) (N := mX1_advance) (b := 39) (mc := 0) (ms := 0) (A := []) (S := []) (L0 := [some (.ref 39), none, none, none]) dX1_readProduct_44 rfl km_X1_advance kk_X1_50 Rd1u.1 ⟨by decide, rfl⟩ rfl ⟨rfl, by decide⟩ rfl (Nat.le_of_ble_eq_true rfl) (Nat.zero_add _) (Nat.zero_add _) rfl ?_
      refine r_adv  H Wf (fun hp3 Hr4 fz5 => ?_)
      have fyfz5 : ∀ k, (k < 39 ∨ 43 ≤ k) → hp3 k = _ := fun k hk => fz5 k hk
      have Wf6 : WR L tp (avF L tp ρ) := wr_av Wf
      refine aw_aload_n (npc := 48) rfl dX1_readProduct_47 rfl ?_
      obtain ⟨r2u, cd2u, Rd2u, m1_2, m2_2, m3_2, m4_2, m5_2, m7_2, m8_2, m9_2, m10_2, mc_2⟩ := id Hr4
      refine aw_callV (npc := 51) (N := mX1_readPiece) (b := 39) (mc := 0) (ms := 0) (A := []) (S := []) (L0 := [some (.ref 39)]) dX1_readProduct_48 rfl km_X1_readPiece kk_X1_122 Rd2u.1 ⟨by decide, rfl⟩ rfl ⟨rfl, by decide⟩ rfl (Nat.le_of_ble_eq_true rfl) (Nat.zero_add _) (Nat.zero_add _) rfl ?_
      refine aw_dd (d2 := d + 4 + q) (by omega) ?_
      refine hG _ _ _ _ _ _ _ (avF L tp ρ) Hr4 Wf6 hd (fun hp7 Hc8 fz9 => ?_)
      have Wc10 := hO (avF L tp ρ) Wf6 hd
      have fyfz9 : ∀ k, (k < 39 ∨ 43 ≤ k) → hp7 k = _ := fun k hk => fz9 k hk
      have hd11 : 17 ≤ D + ((P) (avF L tp ρ)).2.2.2.2.2.1 + ((P) (avF L tp ρ)).2.2.2.2.2.2 := kp_d Wc10.2 hd
      refine aw_aload_n (npc := 52) rfl dX1_readProduct_51 rfl ?_
      refine aw_iload_n (npc := 53) rfl dX1_readProduct_52 rfl ?_
      refine aw_ineg (npc := 54) dX1_readProduct_53 rfl ?_
      obtain ⟨r3u, cd3u, Rd3u, m1_3, m2_3, m3_3, m4_3, m5_3, m7_3, m8_3, m9_3, m10_3, mc_3⟩ := id Hc8
      refine aw_callV (npc := 57) (N := mX1_emit) (b := 39) (mc := 0) (ms := 0) (A := [.int (-(tp ρ.1.2.1))]) (S := []) (L0 := [some (.ref 39), some (.int (-(tp ρ.1.2.1)))]) dX1_readProduct_54 rfl km_X1_emit kk_X1_109 Rd3u.1 ⟨by decide, rfl⟩ rfl ⟨rfl, by decide⟩ rfl (Nat.le_of_ble_eq_true rfl) (Nat.zero_add _) (Nat.zero_add _) rfl ?_
      refine r_emit (c := (-(tp ρ.1.2.1))) Hc8 Wc10.1 (fun hp12 Hr13 fz14 => ?_)
      have fyfz14 : ∀ k, (k < 39 ∨ 43 ≤ k) → hp12 k = _ := fun k hk => fz14 k hk
      have Wf15 : WR L tp (emF (-(tp ρ.1.2.1)) ((P) (avF L tp ρ))) := wr_em Wc10.1
      refine aw_iinc (npc := 60) (v := nI (i + 1)) (L' := [some (.ref 39), some (.int (nI (i + 1))), some (.int (tp ρ.1.2.1))]) dX1_readProduct_57 rfl rfl (nI_1 _) (by decide) rfl rfl ?_
      refine aw_goto (npc := 6) dX1_readProduct_60 (by decide) ?_
      refine ih (i + 1) (by omega) _ _ _ Hr13 Wf15 hd11 (fun h9 H9 f9 => hq h9 (rx_c ?_ H9) (am_fpT f9 (am_fpT (fun k (hk : k < 39 ∨ 43 ≤ k) => fyfz14 k (by omega)) (am_fpT (fun k (hk : k < 39 ∨ 43 ≤ k) => fyfz9 k (by omega)) (am_fpT (fun k (hk : k < 39 ∨ 43 ≤ k) => fyfz5 k (by omega)) am_fp0)))))
      exact (cI_t (show (sgP tp) ρ from Or.inl hg2)).symm
    · refine aw_re (S' := [.int 0]) rfl ?_
      refine aw_if_ne (npc := 21) (tgt := 30) dX1_readProduct_18 rfl (by decide) (fun hc => absurd (by decide) hc) (fun _ => ?_)
      refine aw_aload_n (npc := 22) rfl dX1_readProduct_21 rfl ?_
      refine aw_bipush (npc := 24) (v := 47) (by decide) dX1_readProduct_22 rfl ?_
      refine aw_callV (npc := 27) (N := mX1_isSign) (b := 39) (mc := 0) (ms := 0) (A := [.int 47]) (S := []) (L0 := [some (.ref 39), some (.int 47)]) dX1_readProduct_24 rfl km_X1_isSign kk_X1_105 Rd1u.1 ⟨by decide, rfl⟩ rfl ⟨rfl, by decide⟩ rfl (Nat.le_of_ble_eq_true rfl) (Nat.zero_add _) (Nat.zero_add _) rfl ?_
      refine r_isSign (c := 47) H Wf (fun hg16 => ?_) (fun hg16 => ?_)
      · refine aw_re (S' := [.int 1]) rfl ?_
        refine aw_if_eq (npc := 30) (tgt := 63) dX1_readProduct_27 rfl (by decide) (fun hc => absurd hc (by decide)) (fun _ => ?_)
        have wf3 : ρ.1.2.1 < ρ.1.2.2 := wk.2.2.2.2.2.1 (by have z := hg16.2.1; omega)
        refine aw_aload_n (npc := 31) rfl dX1_readProduct_30 rfl ?_
        refine aw_get (npc := 34) dX1_readProduct_31 rfl kf_X1_12 Rd1u.1 rfl ?_
        refine aw_get (npc := 37) dX1_readProduct_34 rfl kf_X1_76 Rd1u.2.1 rfl ?_
        refine aw_aload_n (npc := 38) rfl dX1_readProduct_37 rfl ?_
        refine aw_get (npc := 41) dX1_readProduct_38 rfl kf_X1_25 Rd1u.1 rfl ?_
        refine aw_top (y := nI ρ.1.2.1) (m3_1) ?_
        refine aw_iald (npc := 42) (x := tp ρ.1.2.1) (j := ρ.1.2.1) dX1_readProduct_41 rfl Rd1u.2.2.1 (am_ix_nI (by omega)) (tl_at (by omega)) ?_
        refine aw_istore_n (npc := 43) (L' := [some (.ref 39), some (.int (nI i)), some (.int (tp ρ.1.2.1))]) dX1_readProduct_42 rfl (by decide) rfl rfl ?_
        refine aw_aload_n (npc := 44) rfl dX1_readProduct_43 rfl ?_
        refine aw_callV (npc := 47) (N := mX1_advance) (b := 39) (mc := 0) (ms := 0) (A := []) (S := []) (L0 := [some (.ref 39), none, none, none]) dX1_readProduct_44 rfl km_X1_advance kk_X1_50 Rd1u.1 ⟨by decide, rfl⟩ rfl ⟨rfl, by decide⟩ rfl (Nat.le_of_ble_eq_true rfl) (Nat.zero_add _) (Nat.zero_add _) rfl ?_
        refine r_adv  H Wf (fun hp17 Hr18 fz19 => ?_)
        have fyfz19 : ∀ k, (k < 39 ∨ 43 ≤ k) → hp17 k = _ := fun k hk => fz19 k hk
        have Wf20 : WR L tp (avF L tp ρ) := wr_av Wf
        refine aw_aload_n (npc := 48) rfl dX1_readProduct_47 rfl ?_
        obtain ⟨r4u, cd4u, Rd4u, m1_4, m2_4, m3_4, m4_4, m5_4, m7_4, m8_4, m9_4, m10_4, mc_4⟩ := id Hr18
        refine aw_callV (npc := 51) (N := mX1_readPiece) (b := 39) (mc := 0) (ms := 0) (A := []) (S := []) (L0 := [some (.ref 39)]) dX1_readProduct_48 rfl km_X1_readPiece kk_X1_122 Rd4u.1 ⟨by decide, rfl⟩ rfl ⟨rfl, by decide⟩ rfl (Nat.le_of_ble_eq_true rfl) (Nat.zero_add _) (Nat.zero_add _) rfl ?_
        refine aw_dd (d2 := d + 4 + q) (by omega) ?_
        refine hG _ _ _ _ _ _ _ (avF L tp ρ) Hr18 Wf20 hd (fun hp21 Hc22 fz23 => ?_)
        have Wc24 := hO (avF L tp ρ) Wf20 hd
        have fyfz23 : ∀ k, (k < 39 ∨ 43 ≤ k) → hp21 k = _ := fun k hk => fz23 k hk
        have hd25 : 17 ≤ D + ((P) (avF L tp ρ)).2.2.2.2.2.1 + ((P) (avF L tp ρ)).2.2.2.2.2.2 := kp_d Wc24.2 hd
        refine aw_aload_n (npc := 52) rfl dX1_readProduct_51 rfl ?_
        refine aw_iload_n (npc := 53) rfl dX1_readProduct_52 rfl ?_
        refine aw_ineg (npc := 54) dX1_readProduct_53 rfl ?_
        obtain ⟨r5u, cd5u, Rd5u, m1_5, m2_5, m3_5, m4_5, m5_5, m7_5, m8_5, m9_5, m10_5, mc_5⟩ := id Hc22
        refine aw_callV (npc := 57) (N := mX1_emit) (b := 39) (mc := 0) (ms := 0) (A := [.int (-(tp ρ.1.2.1))]) (S := []) (L0 := [some (.ref 39), some (.int (-(tp ρ.1.2.1)))]) dX1_readProduct_54 rfl km_X1_emit kk_X1_109 Rd5u.1 ⟨by decide, rfl⟩ rfl ⟨rfl, by decide⟩ rfl (Nat.le_of_ble_eq_true rfl) (Nat.zero_add _) (Nat.zero_add _) rfl ?_
        refine r_emit (c := (-(tp ρ.1.2.1))) Hc22 Wc24.1 (fun hp26 Hr27 fz28 => ?_)
        have fyfz28 : ∀ k, (k < 39 ∨ 43 ≤ k) → hp26 k = _ := fun k hk => fz28 k hk
        have Wf29 : WR L tp (emF (-(tp ρ.1.2.1)) ((P) (avF L tp ρ))) := wr_em Wc24.1
        refine aw_iinc (npc := 60) (v := nI (i + 1)) (L' := [some (.ref 39), some (.int (nI (i + 1))), some (.int (tp ρ.1.2.1))]) dX1_readProduct_57 rfl rfl (nI_1 _) (by decide) rfl rfl ?_
        refine aw_goto (npc := 6) dX1_readProduct_60 (by decide) ?_
        refine ih (i + 1) (by omega) _ _ _ Hr27 Wf29 hd25 (fun h9 H9 f9 => hq h9 (rx_c ?_ H9) (am_fpT f9 (am_fpT (fun k (hk : k < 39 ∨ 43 ≤ k) => fyfz28 k (by omega)) (am_fpT (fun k (hk : k < 39 ∨ 43 ≤ k) => fyfz23 k (by omega)) (am_fpT (fun k (hk : k < 39 ∨ 43 ≤ k) => fyfz19 k (by omega)) am_fp0)))))
        exact (cI_t (show (sgP tp) ρ from Or.inr hg16)).symm
      · refine aw_re (S' := [.int 0]) rfl ?_
        refine aw_if_eq (npc := 30) (tgt := 63) dX1_readProduct_27 rfl (by decide) (fun _ => ?_) (fun hc => absurd (by decide) hc)
        refine aw_vret rfl dX1_readProduct_63 ?_
        exact hq _ (rx_c (cI_f (show ¬ ((sgP tp) ρ) from fun z => z.elim hg2 hg16)).symm H) am_fp0
set_option maxHeartbeats 4000000 in
set_option maxRecDepth 100000 in
theorem r_prod {L : Nat} {tp : Nat → Int32} {D q : Nat} {P : RS → RS} (hG : CM L tp mX1_readPiece [some (.ref 39)] q D P) (hO : PO L tp D (P)) : CM L tp mX1_readProduct [some (.ref 39), none, none] (q + 5) D (fun ρ => lpF L tp (P) (sgP tp) 96 (P ρ)) := by
  intro X d rc rs n Q h ρ H Wf hd hq
  refine aw_dd (d2 := d + q + 5) (by omega) ?_
  refine aw_aload_n (npc := 1) rfl dX1_readProduct_0 rfl ?_
  obtain ⟨r1u, cd1u, Rd1u, m1_1, m2_1, m3_1, m4_1, m5_1, m7_1, m8_1, m9_1, m10_1, mc_1⟩ := id H
  refine aw_callV (npc := 4) (N := mX1_readPiece) (b := 39) (mc := 0) (ms := 0) (A := []) (S := []) (L0 := [some (.ref 39)]) dX1_readProduct_1 rfl km_X1_readPiece kk_X1_122 Rd1u.1 ⟨by decide, rfl⟩ rfl ⟨rfl, by decide⟩ rfl (Nat.le_of_ble_eq_true rfl) (Nat.zero_add _) (Nat.zero_add _) rfl ?_
  refine aw_dd (d2 := d + 4 + q) (by omega) ?_
  refine hG _ _ _ _ _ _ _ (ρ) H Wf hd (fun hp1 Hc2 fz3 => ?_)
  have Wc4 := hO (ρ) Wf hd
  have fyfz3 : ∀ k, (k < 39 ∨ 43 ≤ k) → hp1 k = _ := fun k hk => fz3 k hk
  have hd5 : 17 ≤ D + ((P) (ρ)).2.2.2.2.2.1 + ((P) (ρ)).2.2.2.2.2.2 := kp_d Wc4.2 hd
  refine aw_iconst (npc := 5) (v := 0) (by decide) dX1_readProduct_4 rfl ?_
  refine aw_istore_n (npc := 6) (L' := [some (.ref 39), some (.int 0), none]) dX1_readProduct_5 rfl (by decide) rfl rfl ?_
  refine aw_locs (L' := [some (.ref 39), some (.int (nI 0)), none]) rfl ?_
  exact r_prodL hG hO 96 0 (by omega) _ _ _ Hc2 Wc4.1 hd5 (fun h9 H9 f9 => hq h9 H9 (am_fpT f9 (am_fpT (fun k (hk : k < 39 ∨ 43 ≤ k) => fyfz3 k (by omega)) am_fp0)))
set_option maxHeartbeats 4000000 in
set_option maxRecDepth 100000 in
theorem r_sumL {L : Nat} {tp : Nat → Int32} {D q : Nat} {P : RS → RS} (hG : CM L tp mX1_readProduct [some (.ref 39), none, none] q D (pdF L tp P)) (hO : PO L tp D (pdF L tp P)) {X : List Int32} {d rc rs n : Nat} {Q : am_Q} : ∀ (m i : Nat), i + m = 96 → ∀ (v2 : Option Value) (ρ : RS) (h : am_H), RX ρ L tp h → WR L tp ρ → 17 ≤ D + ρ.2.2.2.2.2.1 + ρ.2.2.2.2.2.2 → (∀ h9, RX (lpF L tp (pdF L tp P) (sgS tp) m ρ) L tp h9 → am_fp (fun k => k < 39 ∨ 43 ≤ k) h9 h → Q none n h9) → AW X mX1_readSum (d + q + 5) rc rs 6 [some (.ref 39), some (.int (nI i)), v2] [] n h Q := by
  intro m
  induction m with
  | zero =>
    intro i hi v2 ρ h H Wf hd hq
    obtain rfl : i = 96 := by omega
    refine aw_iload_n (npc := 7) rfl dX1_readSum_6 rfl ?_
    refine aw_bipush (npc := 9) (v := 96) (by decide) dX1_readSum_7 rfl ?_
    refine aw_icmp_ge (npc := 12) (tgt := 63) dX1_readSum_9 rfl (by decide) (fun _ => ?_) (fun hc => absurd (nI_le (a := 96) (b := 96) (by omega) (by omega)) hc)
    refine aw_vret rfl dX1_readSum_63 ?_
    exact hq _ H am_fp0
  | succ m ih =>
    intro i hi v2 ρ h H Wf hd hq
    obtain ⟨wk, w96, wcl, wob, wog, wft⟩ := id Wf
    have we := wk.1
    have wf := wk.2.1
    refine aw_iload_n (npc := 7) rfl dX1_readSum_6 rfl ?_
    refine aw_bipush (npc := 9) (v := 96) (by decide) dX1_readSum_7 rfl ?_
    refine aw_icmp_ge (npc := 12) (tgt := 63) dX1_readSum_9 rfl (by decide) (fun hc => absurd hc (nI_ge (a := i) (b := 96) (by omega) (by omega))) (fun _ => ?_)
    refine aw_aload_n (npc := 13) rfl dX1_readSum_12 rfl ?_
    refine aw_bipush (npc := 15) (v := 43) (by decide) dX1_readSum_13 rfl ?_
    obtain ⟨r1u, cd1u, Rd1u, m1_1, m2_1, m3_1, m4_1, m5_1, m7_1, m8_1, m9_1, m10_1, mc_1⟩ := id H
    refine aw_callV (npc := 18) (N := mX1_isSign) (b := 39) (mc := 0) (ms := 0) (A := [.int 43]) (S := []) (L0 := [some (.ref 39), some (.int 43)]) dX1_readSum_15 rfl km_X1_isSign kk_X1_105 Rd1u.1 ⟨by decide, rfl⟩ rfl ⟨rfl, by decide⟩ rfl (Nat.le_of_ble_eq_true rfl) (Nat.zero_add _) (Nat.zero_add _) rfl ?_
    refine r_isSign (c := 43) H Wf (fun hg2 => ?_) (fun hg2 => ?_)
    · refine aw_re (S' := [.int 1]) rfl ?_
      refine aw_if_ne (npc := 21) (tgt := 30) dX1_readSum_18 rfl (by decide) (fun _ => ?_) (fun hc => absurd hc (by decide))
      have wf3 : ρ.1.2.1 < ρ.1.2.2 := wk.2.2.2.2.2.1 (by have z := hg2.2.1; omega)
      refine aw_aload_n (npc := 31) rfl dX1_readSum_30 rfl ?_
      refine aw_get (npc := 34) dX1_readSum_31 rfl kf_X1_12 Rd1u.1 rfl ?_
      refine aw_get (npc := 37) dX1_readSum_34 rfl kf_X1_76 Rd1u.2.1 rfl ?_
      refine aw_aload_n (npc := 38) rfl dX1_readSum_37 rfl ?_
      refine aw_get (npc := 41) dX1_readSum_38 rfl kf_X1_25 Rd1u.1 rfl ?_
      refine aw_top (y := nI ρ.1.2.1) (m3_1) ?_
      refine aw_iald (npc := 42) (x := tp ρ.1.2.1) (j := ρ.1.2.1) dX1_readSum_41 rfl Rd1u.2.2.1 (am_ix_nI (by omega)) (tl_at (by omega)) ?_
      refine aw_istore_n (npc := 43) (L' := [some (.ref 39), some (.int (nI i)), some (.int (tp ρ.1.2.1))]) dX1_readSum_42 rfl (by decide) rfl rfl ?_
      refine aw_aload_n (npc := 44) rfl dX1_readSum_43 rfl ?_
      refine aw_callV (npc := 47) (N := mX1_advance) (b := 39) (mc := 0) (ms := 0) (A := []) (S := []) (L0 := [some (.ref 39), none, none, none]) dX1_readSum_44 rfl km_X1_advance kk_X1_50 Rd1u.1 ⟨by decide, rfl⟩ rfl ⟨rfl, by decide⟩ rfl (Nat.le_of_ble_eq_true rfl) (Nat.zero_add _) (Nat.zero_add _) rfl ?_
      refine r_adv  H Wf (fun hp3 Hr4 fz5 => ?_)
      have fyfz5 : ∀ k, (k < 39 ∨ 43 ≤ k) → hp3 k = _ := fun k hk => fz5 k hk
      have Wf6 : WR L tp (avF L tp ρ) := wr_av Wf
      refine aw_aload_n (npc := 48) rfl dX1_readSum_47 rfl ?_
      obtain ⟨r2u, cd2u, Rd2u, m1_2, m2_2, m3_2, m4_2, m5_2, m7_2, m8_2, m9_2, m10_2, mc_2⟩ := id Hr4
      refine aw_callV (npc := 51) (N := mX1_readProduct) (b := 39) (mc := 0) (ms := 0) (A := []) (S := []) (L0 := [some (.ref 39), none, none]) dX1_readSum_48 rfl km_X1_readProduct kk_X1_119 Rd2u.1 ⟨by decide, rfl⟩ rfl ⟨rfl, by decide⟩ rfl (Nat.le_of_ble_eq_true rfl) (Nat.zero_add _) (Nat.zero_add _) rfl ?_
      refine aw_dd (d2 := d + 4 + q) (by omega) ?_
      refine hG _ _ _ _ _ _ _ (avF L tp ρ) Hr4 Wf6 hd (fun hp7 Hc8 fz9 => ?_)
      have Wc10 := hO (avF L tp ρ) Wf6 hd
      have fyfz9 : ∀ k, (k < 39 ∨ 43 ≤ k) → hp7 k = _ := fun k hk => fz9 k hk
      have hd11 : 17 ≤ D + ((pdF L tp P) (avF L tp ρ)).2.2.2.2.2.1 + ((pdF L tp P) (avF L tp ρ)).2.2.2.2.2.2 := kp_d Wc10.2 hd
      refine aw_aload_n (npc := 52) rfl dX1_readSum_51 rfl ?_
      refine aw_iload_n (npc := 53) rfl dX1_readSum_52 rfl ?_
      refine aw_ineg (npc := 54) dX1_readSum_53 rfl ?_
      obtain ⟨r3u, cd3u, Rd3u, m1_3, m2_3, m3_3, m4_3, m5_3, m7_3, m8_3, m9_3, m10_3, mc_3⟩ := id Hc8
      refine aw_callV (npc := 57) (N := mX1_emit) (b := 39) (mc := 0) (ms := 0) (A := [.int (-(tp ρ.1.2.1))]) (S := []) (L0 := [some (.ref 39), some (.int (-(tp ρ.1.2.1)))]) dX1_readSum_54 rfl km_X1_emit kk_X1_109 Rd3u.1 ⟨by decide, rfl⟩ rfl ⟨rfl, by decide⟩ rfl (Nat.le_of_ble_eq_true rfl) (Nat.zero_add _) (Nat.zero_add _) rfl ?_
      refine r_emit (c := (-(tp ρ.1.2.1))) Hc8 Wc10.1 (fun hp12 Hr13 fz14 => ?_)
      have fyfz14 : ∀ k, (k < 39 ∨ 43 ≤ k) → hp12 k = _ := fun k hk => fz14 k hk
      have Wf15 : WR L tp (emF (-(tp ρ.1.2.1)) ((pdF L tp P) (avF L tp ρ))) := wr_em Wc10.1
      refine aw_iinc (npc := 60) (v := nI (i + 1)) (L' := [some (.ref 39), some (.int (nI (i + 1))), some (.int (tp ρ.1.2.1))]) dX1_readSum_57 rfl rfl (nI_1 _) (by decide) rfl rfl ?_
      refine aw_goto (npc := 6) dX1_readSum_60 (by decide) ?_
      refine ih (i + 1) (by omega) _ _ _ Hr13 Wf15 hd11 (fun h9 H9 f9 => hq h9 (rx_c ?_ H9) (am_fpT f9 (am_fpT (fun k (hk : k < 39 ∨ 43 ≤ k) => fyfz14 k (by omega)) (am_fpT (fun k (hk : k < 39 ∨ 43 ≤ k) => fyfz9 k (by omega)) (am_fpT (fun k (hk : k < 39 ∨ 43 ≤ k) => fyfz5 k (by omega)) am_fp0)))))
      exact (cI_t (show (sgS tp) ρ from Or.inl hg2)).symm
    · refine aw_re (S' := [.int 0]) rfl ?_
      refine aw_if_ne (npc := 21) (tgt := 30) dX1_readSum_18 rfl (by decide) (fun hc => absurd (by decide) hc) (fun _ => ?_)
      refine aw_aload_n (npc := 22) rfl dX1_readSum_21 rfl ?_
      refine aw_bipush (npc := 24) (v := 45) (by decide) dX1_readSum_22 rfl ?_
      refine aw_callV (npc := 27) (N := mX1_isSign) (b := 39) (mc := 0) (ms := 0) (A := [.int 45]) (S := []) (L0 := [some (.ref 39), some (.int 45)]) dX1_readSum_24 rfl km_X1_isSign kk_X1_105 Rd1u.1 ⟨by decide, rfl⟩ rfl ⟨rfl, by decide⟩ rfl (Nat.le_of_ble_eq_true rfl) (Nat.zero_add _) (Nat.zero_add _) rfl ?_
      refine r_isSign (c := 45) H Wf (fun hg16 => ?_) (fun hg16 => ?_)
      · refine aw_re (S' := [.int 1]) rfl ?_
        refine aw_if_eq (npc := 30) (tgt := 63) dX1_readSum_27 rfl (by decide) (fun hc => absurd hc (by decide)) (fun _ => ?_)
        have wf3 : ρ.1.2.1 < ρ.1.2.2 := wk.2.2.2.2.2.1 (by have z := hg16.2.1; omega)
        refine aw_aload_n (npc := 31) rfl dX1_readSum_30 rfl ?_
        refine aw_get (npc := 34) dX1_readSum_31 rfl kf_X1_12 Rd1u.1 rfl ?_
        refine aw_get (npc := 37) dX1_readSum_34 rfl kf_X1_76 Rd1u.2.1 rfl ?_
        refine aw_aload_n (npc := 38) rfl dX1_readSum_37 rfl ?_
        refine aw_get (npc := 41) dX1_readSum_38 rfl kf_X1_25 Rd1u.1 rfl ?_
        refine aw_top (y := nI ρ.1.2.1) (m3_1) ?_
        refine aw_iald (npc := 42) (x := tp ρ.1.2.1) (j := ρ.1.2.1) dX1_readSum_41 rfl Rd1u.2.2.1 (am_ix_nI (by omega)) (tl_at (by omega)) ?_
        refine aw_istore_n (npc := 43) (L' := [some (.ref 39), some (.int (nI i)), some (.int (tp ρ.1.2.1))]) dX1_readSum_42 rfl (by decide) rfl rfl ?_
        refine aw_aload_n (npc := 44) rfl dX1_readSum_43 rfl ?_
        refine aw_callV (npc := 47) (N := mX1_advance) (b := 39) (mc := 0) (ms := 0) (A := []) (S := []) (L0 := [some (.ref 39), none, none, none]) dX1_readSum_44 rfl km_X1_advance kk_X1_50 Rd1u.1 ⟨by decide, rfl⟩ rfl ⟨rfl, by decide⟩ rfl (Nat.le_of_ble_eq_true rfl) (Nat.zero_add _) (Nat.zero_add _) rfl ?_
        refine r_adv  H Wf (fun hp17 Hr18 fz19 => ?_)
        have fyfz19 : ∀ k, (k < 39 ∨ 43 ≤ k) → hp17 k = _ := fun k hk => fz19 k hk
        have Wf20 : WR L tp (avF L tp ρ) := wr_av Wf
        refine aw_aload_n (npc := 48) rfl dX1_readSum_47 rfl ?_
        obtain ⟨r4u, cd4u, Rd4u, m1_4, m2_4, m3_4, m4_4, m5_4, m7_4, m8_4, m9_4, m10_4, mc_4⟩ := id Hr18
        refine aw_callV (npc := 51) (N := mX1_readProduct) (b := 39) (mc := 0) (ms := 0) (A := []) (S := []) (L0 := [some (.ref 39), none, none]) dX1_readSum_48 rfl km_X1_readProduct kk_X1_119 Rd4u.1 ⟨by decide, rfl⟩ rfl ⟨rfl, by decide⟩ rfl (Nat.le_of_ble_eq_true rfl) (Nat.zero_add _) (Nat.zero_add _) rfl ?_
        refine aw_dd (d2 := d + 4 + q) (by omega) ?_
        refine hG _ _ _ _ _ _ _ (avF L tp ρ) Hr18 Wf20 hd (fun hp21 Hc22 fz23 => ?_)
        have Wc24 := hO (avF L tp ρ) Wf20 hd
        have fyfz23 : ∀ k, (k < 39 ∨ 43 ≤ k) → hp21 k = _ := fun k hk => fz23 k hk
        have hd25 : 17 ≤ D + ((pdF L tp P) (avF L tp ρ)).2.2.2.2.2.1 + ((pdF L tp P) (avF L tp ρ)).2.2.2.2.2.2 := kp_d Wc24.2 hd
        refine aw_aload_n (npc := 52) rfl dX1_readSum_51 rfl ?_
        refine aw_iload_n (npc := 53) rfl dX1_readSum_52 rfl ?_
        refine aw_ineg (npc := 54) dX1_readSum_53 rfl ?_
        obtain ⟨r5u, cd5u, Rd5u, m1_5, m2_5, m3_5, m4_5, m5_5, m7_5, m8_5, m9_5, m10_5, mc_5⟩ := id Hc22
        refine aw_callV (npc := 57) (N := mX1_emit) (b := 39) (mc := 0) (ms := 0) (A := [.int (-(tp ρ.1.2.1))]) (S := []) (L0 := [some (.ref 39), some (.int (-(tp ρ.1.2.1)))]) dX1_readSum_54 rfl km_X1_emit kk_X1_109 Rd5u.1 ⟨by decide, rfl⟩ rfl ⟨rfl, by decide⟩ rfl (Nat.le_of_ble_eq_true rfl) (Nat.zero_add _) (Nat.zero_add _) rfl ?_
        refine r_emit (c := (-(tp ρ.1.2.1))) Hc22 Wc24.1 (fun hp26 Hr27 fz28 => ?_)
        have fyfz28 : ∀ k, (k < 39 ∨ 43 ≤ k) → hp26 k = _ := fun k hk => fz28 k hk
        have Wf29 : WR L tp (emF (-(tp ρ.1.2.1)) ((pdF L tp P) (avF L tp ρ))) := wr_em Wc24.1
        refine aw_iinc (npc := 60) (v := nI (i + 1)) (L' := [some (.ref 39), some (.int (nI (i + 1))), some (.int (tp ρ.1.2.1))]) dX1_readSum_57 rfl rfl (nI_1 _) (by decide) rfl rfl ?_
        refine aw_goto (npc := 6) dX1_readSum_60 (by decide) ?_
        refine ih (i + 1) (by omega) _ _ _ Hr27 Wf29 hd25 (fun h9 H9 f9 => hq h9 (rx_c ?_ H9) (am_fpT f9 (am_fpT (fun k (hk : k < 39 ∨ 43 ≤ k) => fyfz28 k (by omega)) (am_fpT (fun k (hk : k < 39 ∨ 43 ≤ k) => fyfz23 k (by omega)) (am_fpT (fun k (hk : k < 39 ∨ 43 ≤ k) => fyfz19 k (by omega)) am_fp0)))))
        exact (cI_t (show (sgS tp) ρ from Or.inr hg16)).symm
      · refine aw_re (S' := [.int 0]) rfl ?_
        refine aw_if_eq (npc := 30) (tgt := 63) dX1_readSum_27 rfl (by decide) (fun _ => ?_) (fun hc => absurd (by decide) hc)
        refine aw_vret rfl dX1_readSum_63 ?_
        exact hq _ (rx_c (cI_f (show ¬ ((sgS tp) ρ) from fun z => z.elim hg2 hg16)).symm H) am_fp0
set_option maxHeartbeats 4000000 in
set_option maxRecDepth 100000 in
theorem r_sum {L : Nat} {tp : Nat → Int32} {D q : Nat} {P : RS → RS} (hG : CM L tp mX1_readProduct [some (.ref 39), none, none] q D (pdF L tp P)) (hO : PO L tp D (pdF L tp P)) : CM L tp mX1_readSum [some (.ref 39), none, none] (q + 5) D (fun ρ => lpF L tp (pdF L tp P) (sgS tp) 96 (pdF L tp P ρ)) := by
  intro X d rc rs n Q h ρ H Wf hd hq
  refine aw_dd (d2 := d + q + 5) (by omega) ?_
  refine aw_aload_n (npc := 1) rfl dX1_readSum_0 rfl ?_
  obtain ⟨r1u, cd1u, Rd1u, m1_1, m2_1, m3_1, m4_1, m5_1, m7_1, m8_1, m9_1, m10_1, mc_1⟩ := id H
  refine aw_callV (npc := 4) (N := mX1_readProduct) (b := 39) (mc := 0) (ms := 0) (A := []) (S := []) (L0 := [some (.ref 39), none, none]) dX1_readSum_1 rfl km_X1_readProduct kk_X1_119 Rd1u.1 ⟨by decide, rfl⟩ rfl ⟨rfl, by decide⟩ rfl (Nat.le_of_ble_eq_true rfl) (Nat.zero_add _) (Nat.zero_add _) rfl ?_
  refine aw_dd (d2 := d + 4 + q) (by omega) ?_
  refine hG _ _ _ _ _ _ _ (ρ) H Wf hd (fun hp1 Hc2 fz3 => ?_)
  have Wc4 := hO (ρ) Wf hd
  have fyfz3 : ∀ k, (k < 39 ∨ 43 ≤ k) → hp1 k = _ := fun k hk => fz3 k hk
  have hd5 : 17 ≤ D + ((pdF L tp P) (ρ)).2.2.2.2.2.1 + ((pdF L tp P) (ρ)).2.2.2.2.2.2 := kp_d Wc4.2 hd
  refine aw_iconst (npc := 5) (v := 0) (by decide) dX1_readSum_4 rfl ?_
  refine aw_istore_n (npc := 6) (L' := [some (.ref 39), some (.int 0), none]) dX1_readSum_5 rfl (by decide) rfl rfl ?_
  refine aw_locs (L' := [some (.ref 39), some (.int (nI 0)), none]) rfl ?_
  exact r_sumL hG hO 96 0 (by omega) _ _ _ Hc2 Wc4.1 hd5 (fun h9 H9 f9 => hq h9 H9 (am_fpT f9 (am_fpT (fun k (hk : k < 39 ∨ 43 ≤ k) => fyfz3 k (by omega)) am_fp0)))
set_option maxHeartbeats 4000000 in
set_option maxRecDepth 100000 in
theorem r_andL {L : Nat} {tp : Nat → Int32} {D q : Nat} {P : RS → RS} (hG : CM L tp mX1_readTest [some (.ref 39), none] q D (tsF L tp P)) (hO : PO L tp D (tsF L tp P)) {X : List Int32} {d rc rs n : Nat} {Q : am_Q} : ∀ (m i : Nat), i + m = 96 → ∀ (ρ : RS) (h : am_H), RX ρ L tp h → WR L tp ρ → 17 ≤ D + ρ.2.2.2.2.2.1 + ρ.2.2.2.2.2.2 → (∀ h9, RX (lpF L tp (tsF L tp P) (fun ρ => isSg tp ρ 38) m ρ) L tp h9 → am_fp (fun k => k < 39 ∨ 43 ≤ k) h9 h → Q none n h9) → AW X mX1_readAnd (d + q + 5) rc rs 6 [some (.ref 39), some (.int (nI i))] [] n h Q := by
  intro m
  induction m with
  | zero =>
    intro i hi ρ h H Wf hd hq
    obtain rfl : i = 96 := by omega
    refine aw_iload_n (npc := 7) rfl dX1_readAnd_6 rfl ?_
    refine aw_bipush (npc := 9) (v := 96) (by decide) dX1_readAnd_7 rfl ?_
    refine aw_icmp_ge (npc := 12) (tgt := 41) dX1_readAnd_9 rfl (by decide) (fun _ => ?_) (fun hc => absurd (nI_le (a := 96) (b := 96) (by omega) (by omega)) hc)
    refine aw_vret rfl dX1_readAnd_41 ?_
    exact hq _ H am_fp0
  | succ m ih =>
    intro i hi ρ h H Wf hd hq
    obtain ⟨wk, w96, wcl, wob, wog, wft⟩ := id Wf
    have we := wk.1
    have wf := wk.2.1
    refine aw_iload_n (npc := 7) rfl dX1_readAnd_6 rfl ?_
    refine aw_bipush (npc := 9) (v := 96) (by decide) dX1_readAnd_7 rfl ?_
    refine aw_icmp_ge (npc := 12) (tgt := 41) dX1_readAnd_9 rfl (by decide) (fun hc => absurd hc (nI_ge (a := i) (b := 96) (by omega) (by omega))) (fun _ => ?_)
    refine aw_aload_n (npc := 13) rfl dX1_readAnd_12 rfl ?_
    refine aw_bipush (npc := 15) (v := 38) (by decide) dX1_readAnd_13 rfl ?_
    obtain ⟨r1u, cd1u, Rd1u, m1_1, m2_1, m3_1, m4_1, m5_1, m7_1, m8_1, m9_1, m10_1, mc_1⟩ := id H
    refine aw_callV (npc := 18) (N := mX1_isSign) (b := 39) (mc := 0) (ms := 0) (A := [.int 38]) (S := []) (L0 := [some (.ref 39), some (.int 38)]) dX1_readAnd_15 rfl km_X1_isSign kk_X1_105 Rd1u.1 ⟨by decide, rfl⟩ rfl ⟨rfl, by decide⟩ rfl (Nat.le_of_ble_eq_true rfl) (Nat.zero_add _) (Nat.zero_add _) rfl ?_
    refine r_isSign (c := 38) H Wf (fun hg2 => ?_) (fun hg2 => ?_)
    · refine aw_re (S' := [.int 1]) rfl ?_
      refine aw_if_eq (npc := 21) (tgt := 41) dX1_readAnd_18 rfl (by decide) (fun hc => absurd hc (by decide)) (fun _ => ?_)
      refine aw_aload_n (npc := 22) rfl dX1_readAnd_21 rfl ?_
      refine aw_callV (npc := 25) (N := mX1_advance) (b := 39) (mc := 0) (ms := 0) (A := []) (S := []) (L0 := [some (.ref 39), none, none, none]) dX1_readAnd_22 rfl km_X1_advance kk_X1_50 Rd1u.1 ⟨by decide, rfl⟩ rfl ⟨rfl, by decide⟩ rfl (Nat.le_of_ble_eq_true rfl) (Nat.zero_add _) (Nat.zero_add _) rfl ?_
      refine r_adv  H Wf (fun hp3 Hr4 fz5 => ?_)
      have fyfz5 : ∀ k, (k < 39 ∨ 43 ≤ k) → hp3 k = _ := fun k hk => fz5 k hk
      have Wf6 : WR L tp (avF L tp ρ) := wr_av Wf
      refine aw_aload_n (npc := 26) rfl dX1_readAnd_25 rfl ?_
      obtain ⟨r2u, cd2u, Rd2u, m1_2, m2_2, m3_2, m4_2, m5_2, m7_2, m8_2, m9_2, m10_2, mc_2⟩ := id Hr4
      refine aw_callV (npc := 29) (N := mX1_readTest) (b := 39) (mc := 0) (ms := 0) (A := []) (S := []) (L0 := [some (.ref 39), none]) dX1_readAnd_26 rfl km_X1_readTest kk_X1_113 Rd2u.1 ⟨by decide, rfl⟩ rfl ⟨rfl, by decide⟩ rfl (Nat.le_of_ble_eq_true rfl) (Nat.zero_add _) (Nat.zero_add _) rfl ?_
      refine aw_dd (d2 := d + 4 + q) (by omega) ?_
      refine hG _ _ _ _ _ _ _ (avF L tp ρ) Hr4 Wf6 hd (fun hp7 Hc8 fz9 => ?_)
      have Wc10 := hO (avF L tp ρ) Wf6 hd
      have fyfz9 : ∀ k, (k < 39 ∨ 43 ≤ k) → hp7 k = _ := fun k hk => fz9 k hk
      have hd11 : 17 ≤ D + ((tsF L tp P) (avF L tp ρ)).2.2.2.2.2.1 + ((tsF L tp P) (avF L tp ρ)).2.2.2.2.2.2 := kp_d Wc10.2 hd
      refine aw_aload_n (npc := 30) rfl dX1_readAnd_29 rfl ?_
      refine aw_bipush (npc := 32) (v := -38) (by decide) dX1_readAnd_30 rfl ?_
      obtain ⟨r3u, cd3u, Rd3u, m1_3, m2_3, m3_3, m4_3, m5_3, m7_3, m8_3, m9_3, m10_3, mc_3⟩ := id Hc8
      refine aw_callV (npc := 35) (N := mX1_emit) (b := 39) (mc := 0) (ms := 0) (A := [.int (-38)]) (S := []) (L0 := [some (.ref 39), some (.int (-38))]) dX1_readAnd_32 rfl km_X1_emit kk_X1_109 Rd3u.1 ⟨by decide, rfl⟩ rfl ⟨rfl, by decide⟩ rfl (Nat.le_of_ble_eq_true rfl) (Nat.zero_add _) (Nat.zero_add _) rfl ?_
      refine r_emit (c := (-38)) Hc8 Wc10.1 (fun hp12 Hr13 fz14 => ?_)
      have fyfz14 : ∀ k, (k < 39 ∨ 43 ≤ k) → hp12 k = _ := fun k hk => fz14 k hk
      have Wf15 : WR L tp (emF (-38) ((tsF L tp P) (avF L tp ρ))) := wr_em Wc10.1
      refine aw_iinc (npc := 38) (v := nI (i + 1)) (L' := [some (.ref 39), some (.int (nI (i + 1)))]) dX1_readAnd_35 rfl rfl (nI_1 _) (by decide) rfl rfl ?_
      refine aw_goto (npc := 6) dX1_readAnd_38 (by decide) ?_
      refine ih (i + 1) (by omega) _ _ Hr13 Wf15 hd11 (fun h9 H9 f9 => hq h9 (rx_c ?_ H9) (am_fpT f9 (am_fpT (fun k (hk : k < 39 ∨ 43 ≤ k) => fyfz14 k (by omega)) (am_fpT (fun k (hk : k < 39 ∨ 43 ≤ k) => fyfz9 k (by omega)) (am_fpT (fun k (hk : k < 39 ∨ 43 ≤ k) => fyfz5 k (by omega)) am_fp0)))))
      refine (Eq.trans ?_ (cI_t (show (fun ρ => isSg tp ρ 38) ρ from hg2)).symm)
      rw [hg2.2.2]
    · refine aw_re (S' := [.int 0]) rfl ?_
      refine aw_if_eq (npc := 21) (tgt := 41) dX1_readAnd_18 rfl (by decide) (fun _ => ?_) (fun hc => absurd (by decide) hc)
      refine aw_vret rfl dX1_readAnd_41 ?_
      exact hq _ (rx_c (cI_f (show ¬ ((fun ρ => isSg tp ρ 38) ρ) from hg2)).symm H) am_fp0
set_option maxHeartbeats 4000000 in
set_option maxRecDepth 100000 in
theorem r_and {L : Nat} {tp : Nat → Int32} {D q : Nat} {P : RS → RS} (hG : CM L tp mX1_readTest [some (.ref 39), none] q D (tsF L tp P)) (hO : PO L tp D (tsF L tp P)) : CM L tp mX1_readAnd [some (.ref 39), none] (q + 5) D (fun ρ => lpF L tp (tsF L tp P) (fun ρ => isSg tp ρ 38) 96 (tsF L tp P ρ)) := by
  intro X d rc rs n Q h ρ H Wf hd hq
  refine aw_dd (d2 := d + q + 5) (by omega) ?_
  refine aw_aload_n (npc := 1) rfl dX1_readAnd_0 rfl ?_
  obtain ⟨r1u, cd1u, Rd1u, m1_1, m2_1, m3_1, m4_1, m5_1, m7_1, m8_1, m9_1, m10_1, mc_1⟩ := id H
  refine aw_callV (npc := 4) (N := mX1_readTest) (b := 39) (mc := 0) (ms := 0) (A := []) (S := []) (L0 := [some (.ref 39), none]) dX1_readAnd_1 rfl km_X1_readTest kk_X1_113 Rd1u.1 ⟨by decide, rfl⟩ rfl ⟨rfl, by decide⟩ rfl (Nat.le_of_ble_eq_true rfl) (Nat.zero_add _) (Nat.zero_add _) rfl ?_
  refine aw_dd (d2 := d + 4 + q) (by omega) ?_
  refine hG _ _ _ _ _ _ _ (ρ) H Wf hd (fun hp1 Hc2 fz3 => ?_)
  have Wc4 := hO (ρ) Wf hd
  have fyfz3 : ∀ k, (k < 39 ∨ 43 ≤ k) → hp1 k = _ := fun k hk => fz3 k hk
  have hd5 : 17 ≤ D + ((tsF L tp P) (ρ)).2.2.2.2.2.1 + ((tsF L tp P) (ρ)).2.2.2.2.2.2 := kp_d Wc4.2 hd
  refine aw_iconst (npc := 5) (v := 0) (by decide) dX1_readAnd_4 rfl ?_
  refine aw_istore_n (npc := 6) (L' := [some (.ref 39), some (.int 0)]) dX1_readAnd_5 rfl (by decide) rfl rfl ?_
  refine aw_locs (L' := [some (.ref 39), some (.int (nI 0))]) rfl ?_
  exact r_andL hG hO 96 0 (by omega) _ _ Hc2 Wc4.1 hd5 (fun h9 H9 f9 => hq h9 H9 (am_fpT f9 (am_fpT (fun k (hk : k < 39 ∨ 43 ≤ k) => fyfz3 k (by omega)) am_fp0)))
set_option maxHeartbeats 4000000 in
set_option maxRecDepth 100000 in
theorem r_orL {L : Nat} {tp : Nat → Int32} {D q : Nat} {P : RS → RS} (hG : CM L tp mX1_readAnd [some (.ref 39), none] q D (anF L tp P)) (hO : PO L tp D (anF L tp P)) {X : List Int32} {d rc rs n : Nat} {Q : am_Q} : ∀ (m i : Nat), i + m = 96 → ∀ (ρ : RS) (h : am_H), RX ρ L tp h → WR L tp ρ → 17 ≤ D + ρ.2.2.2.2.2.1 + ρ.2.2.2.2.2.2 → (∀ h9, RX (lpF L tp (anF L tp P) (fun ρ => isSg tp ρ 124) m ρ) L tp h9 → am_fp (fun k => k < 39 ∨ 43 ≤ k) h9 h → Q none n h9) → AW X mX1_readOr (d + q + 5) rc rs 6 [some (.ref 39), some (.int (nI i))] [] n h Q := by
  intro m
  induction m with
  | zero =>
    intro i hi ρ h H Wf hd hq
    obtain rfl : i = 96 := by omega
    refine aw_iload_n (npc := 7) rfl dX1_readOr_6 rfl ?_
    refine aw_bipush (npc := 9) (v := 96) (by decide) dX1_readOr_7 rfl ?_
    refine aw_icmp_ge (npc := 12) (tgt := 41) dX1_readOr_9 rfl (by decide) (fun _ => ?_) (fun hc => absurd (nI_le (a := 96) (b := 96) (by omega) (by omega)) hc)
    refine aw_vret rfl dX1_readOr_41 ?_
    exact hq _ H am_fp0
  | succ m ih =>
    intro i hi ρ h H Wf hd hq
    obtain ⟨wk, w96, wcl, wob, wog, wft⟩ := id Wf
    have we := wk.1
    have wf := wk.2.1
    refine aw_iload_n (npc := 7) rfl dX1_readOr_6 rfl ?_
    refine aw_bipush (npc := 9) (v := 96) (by decide) dX1_readOr_7 rfl ?_
    refine aw_icmp_ge (npc := 12) (tgt := 41) dX1_readOr_9 rfl (by decide) (fun hc => absurd hc (nI_ge (a := i) (b := 96) (by omega) (by omega))) (fun _ => ?_)
    refine aw_aload_n (npc := 13) rfl dX1_readOr_12 rfl ?_
    refine aw_bipush (npc := 15) (v := 124) (by decide) dX1_readOr_13 rfl ?_
    obtain ⟨r1u, cd1u, Rd1u, m1_1, m2_1, m3_1, m4_1, m5_1, m7_1, m8_1, m9_1, m10_1, mc_1⟩ := id H
    refine aw_callV (npc := 18) (N := mX1_isSign) (b := 39) (mc := 0) (ms := 0) (A := [.int 124]) (S := []) (L0 := [some (.ref 39), some (.int 124)]) dX1_readOr_15 rfl km_X1_isSign kk_X1_105 Rd1u.1 ⟨by decide, rfl⟩ rfl ⟨rfl, by decide⟩ rfl (Nat.le_of_ble_eq_true rfl) (Nat.zero_add _) (Nat.zero_add _) rfl ?_
    refine r_isSign (c := 124) H Wf (fun hg2 => ?_) (fun hg2 => ?_)
    · refine aw_re (S' := [.int 1]) rfl ?_
      refine aw_if_eq (npc := 21) (tgt := 41) dX1_readOr_18 rfl (by decide) (fun hc => absurd hc (by decide)) (fun _ => ?_)
      refine aw_aload_n (npc := 22) rfl dX1_readOr_21 rfl ?_
      refine aw_callV (npc := 25) (N := mX1_advance) (b := 39) (mc := 0) (ms := 0) (A := []) (S := []) (L0 := [some (.ref 39), none, none, none]) dX1_readOr_22 rfl km_X1_advance kk_X1_50 Rd1u.1 ⟨by decide, rfl⟩ rfl ⟨rfl, by decide⟩ rfl (Nat.le_of_ble_eq_true rfl) (Nat.zero_add _) (Nat.zero_add _) rfl ?_
      refine r_adv  H Wf (fun hp3 Hr4 fz5 => ?_)
      have fyfz5 : ∀ k, (k < 39 ∨ 43 ≤ k) → hp3 k = _ := fun k hk => fz5 k hk
      have Wf6 : WR L tp (avF L tp ρ) := wr_av Wf
      refine aw_aload_n (npc := 26) rfl dX1_readOr_25 rfl ?_
      obtain ⟨r2u, cd2u, Rd2u, m1_2, m2_2, m3_2, m4_2, m5_2, m7_2, m8_2, m9_2, m10_2, mc_2⟩ := id Hr4
      refine aw_callV (npc := 29) (N := mX1_readAnd) (b := 39) (mc := 0) (ms := 0) (A := []) (S := []) (L0 := [some (.ref 39), none]) dX1_readOr_26 rfl km_X1_readAnd kk_X1_102 Rd2u.1 ⟨by decide, rfl⟩ rfl ⟨rfl, by decide⟩ rfl (Nat.le_of_ble_eq_true rfl) (Nat.zero_add _) (Nat.zero_add _) rfl ?_
      refine aw_dd (d2 := d + 4 + q) (by omega) ?_
      refine hG _ _ _ _ _ _ _ (avF L tp ρ) Hr4 Wf6 hd (fun hp7 Hc8 fz9 => ?_)
      have Wc10 := hO (avF L tp ρ) Wf6 hd
      have fyfz9 : ∀ k, (k < 39 ∨ 43 ≤ k) → hp7 k = _ := fun k hk => fz9 k hk
      have hd11 : 17 ≤ D + ((anF L tp P) (avF L tp ρ)).2.2.2.2.2.1 + ((anF L tp P) (avF L tp ρ)).2.2.2.2.2.2 := kp_d Wc10.2 hd
      refine aw_aload_n (npc := 30) rfl dX1_readOr_29 rfl ?_
      refine aw_bipush (npc := 32) (v := -124) (by decide) dX1_readOr_30 rfl ?_
      obtain ⟨r3u, cd3u, Rd3u, m1_3, m2_3, m3_3, m4_3, m5_3, m7_3, m8_3, m9_3, m10_3, mc_3⟩ := id Hc8
      refine aw_callV (npc := 35) (N := mX1_emit) (b := 39) (mc := 0) (ms := 0) (A := [.int (-124)]) (S := []) (L0 := [some (.ref 39), some (.int (-124))]) dX1_readOr_32 rfl km_X1_emit kk_X1_109 Rd3u.1 ⟨by decide, rfl⟩ rfl ⟨rfl, by decide⟩ rfl (Nat.le_of_ble_eq_true rfl) (Nat.zero_add _) (Nat.zero_add _) rfl ?_
      refine r_emit (c := (-124)) Hc8 Wc10.1 (fun hp12 Hr13 fz14 => ?_)
      have fyfz14 : ∀ k, (k < 39 ∨ 43 ≤ k) → hp12 k = _ := fun k hk => fz14 k hk
      have Wf15 : WR L tp (emF (-124) ((anF L tp P) (avF L tp ρ))) := wr_em Wc10.1
      refine aw_iinc (npc := 38) (v := nI (i + 1)) (L' := [some (.ref 39), some (.int (nI (i + 1)))]) dX1_readOr_35 rfl rfl (nI_1 _) (by decide) rfl rfl ?_
      refine aw_goto (npc := 6) dX1_readOr_38 (by decide) ?_
      refine ih (i + 1) (by omega) _ _ Hr13 Wf15 hd11 (fun h9 H9 f9 => hq h9 (rx_c ?_ H9) (am_fpT f9 (am_fpT (fun k (hk : k < 39 ∨ 43 ≤ k) => fyfz14 k (by omega)) (am_fpT (fun k (hk : k < 39 ∨ 43 ≤ k) => fyfz9 k (by omega)) (am_fpT (fun k (hk : k < 39 ∨ 43 ≤ k) => fyfz5 k (by omega)) am_fp0)))))
      refine (Eq.trans ?_ (cI_t (show (fun ρ => isSg tp ρ 124) ρ from hg2)).symm)
      rw [hg2.2.2]
    · refine aw_re (S' := [.int 0]) rfl ?_
      refine aw_if_eq (npc := 21) (tgt := 41) dX1_readOr_18 rfl (by decide) (fun _ => ?_) (fun hc => absurd (by decide) hc)
      refine aw_vret rfl dX1_readOr_41 ?_
      exact hq _ (rx_c (cI_f (show ¬ ((fun ρ => isSg tp ρ 124) ρ) from hg2)).symm H) am_fp0
set_option maxHeartbeats 4000000 in
set_option maxRecDepth 100000 in
theorem r_or {L : Nat} {tp : Nat → Int32} {D q : Nat} {P : RS → RS} (hG : CM L tp mX1_readAnd [some (.ref 39), none] q D (anF L tp P)) (hO : PO L tp D (anF L tp P)) : CM L tp mX1_readOr [some (.ref 39), none] (q + 5) D (fun ρ => lpF L tp (anF L tp P) (fun ρ => isSg tp ρ 124) 96 (anF L tp P ρ)) := by
  intro X d rc rs n Q h ρ H Wf hd hq
  refine aw_dd (d2 := d + q + 5) (by omega) ?_
  refine aw_aload_n (npc := 1) rfl dX1_readOr_0 rfl ?_
  obtain ⟨r1u, cd1u, Rd1u, m1_1, m2_1, m3_1, m4_1, m5_1, m7_1, m8_1, m9_1, m10_1, mc_1⟩ := id H
  refine aw_callV (npc := 4) (N := mX1_readAnd) (b := 39) (mc := 0) (ms := 0) (A := []) (S := []) (L0 := [some (.ref 39), none]) dX1_readOr_1 rfl km_X1_readAnd kk_X1_102 Rd1u.1 ⟨by decide, rfl⟩ rfl ⟨rfl, by decide⟩ rfl (Nat.le_of_ble_eq_true rfl) (Nat.zero_add _) (Nat.zero_add _) rfl ?_
  refine aw_dd (d2 := d + 4 + q) (by omega) ?_
  refine hG _ _ _ _ _ _ _ (ρ) H Wf hd (fun hp1 Hc2 fz3 => ?_)
  have Wc4 := hO (ρ) Wf hd
  have fyfz3 : ∀ k, (k < 39 ∨ 43 ≤ k) → hp1 k = _ := fun k hk => fz3 k hk
  have hd5 : 17 ≤ D + ((anF L tp P) (ρ)).2.2.2.2.2.1 + ((anF L tp P) (ρ)).2.2.2.2.2.2 := kp_d Wc4.2 hd
  refine aw_iconst (npc := 5) (v := 0) (by decide) dX1_readOr_4 rfl ?_
  refine aw_istore_n (npc := 6) (L' := [some (.ref 39), some (.int 0)]) dX1_readOr_5 rfl (by decide) rfl rfl ?_
  refine aw_locs (L' := [some (.ref 39), some (.int (nI 0))]) rfl ?_
  exact r_orL hG hO 96 0 (by omega) _ _ Hc2 Wc4.1 hd5 (fun h9 H9 f9 => hq h9 H9 (am_fpT f9 (am_fpT (fun k (hk : k < 39 ∨ 43 ≤ k) => fyfz3 k (by omega)) am_fp0)))
set_option maxHeartbeats 4000000 in
set_option maxRecDepth 100000 in
theorem r_test {L : Nat} {tp : Nat → Int32} {D q : Nat} {P : RS → RS} (hG : CM L tp mX1_readSum [some (.ref 39), none, none] q D (smF L tp P)) (hO : PO L tp D (smF L tp P)) : CM L tp mX1_readTest [some (.ref 39), none] (q + 5) D (tsF L tp P) := by
  intro X d rc rs n Q h ρ H Wf hd hq
  obtain ⟨wk, w96, wcl, wob, wog, wft⟩ := id Wf
  refine aw_dd (d2 := d + q + 5) (by omega) ?_
  refine aw_aload_n (npc := 1) rfl dX1_readTest_0 rfl ?_
  obtain ⟨r1u, cd1u, Rd1u, m1_1, m2_1, m3_1, m4_1, m5_1, m7_1, m8_1, m9_1, m10_1, mc_1⟩ := id H
  refine aw_callV (npc := 4) (N := mX1_readSum) (b := 39) (mc := 0) (ms := 0) (A := []) (S := []) (L0 := [some (.ref 39), none, none]) dX1_readTest_1 rfl km_X1_readSum kk_X1_116 Rd1u.1 ⟨by decide, rfl⟩ rfl ⟨rfl, by decide⟩ rfl (Nat.le_of_ble_eq_true rfl) (Nat.zero_add _) (Nat.zero_add _) rfl ?_
  refine aw_dd (d2 := d + 4 + q) (by omega) ?_
  refine hG _ _ _ _ _ _ _ (ρ) H Wf hd (fun hp1 Hc2 fz3 => ?_)
  have Wc4 := hO (ρ) Wf hd
  have fyfz3 : ∀ k, (k < 39 ∨ 43 ≤ k) → hp1 k = _ := fun k hk => fz3 k hk
  have hd5 : 17 ≤ D + (smF L tp P (ρ)).2.2.2.2.2.1 + (smF L tp P (ρ)).2.2.2.2.2.2 := kp_d Wc4.2 hd
  refine aw_aload_n (npc := 5) rfl dX1_readTest_4 rfl ?_
  refine aw_bipush (npc := 7) (v := 60) (by decide) dX1_readTest_5 rfl ?_
  obtain ⟨r2u, cd2u, Rd2u, m1_2, m2_2, m3_2, m4_2, m5_2, m7_2, m8_2, m9_2, m10_2, mc_2⟩ := id Hc2
  refine aw_callV (npc := 10) (N := mX1_isSign) (b := 39) (mc := 0) (ms := 0) (A := [.int 60]) (S := []) (L0 := [some (.ref 39), some (.int 60)]) dX1_readTest_7 rfl km_X1_isSign kk_X1_105 Rd2u.1 ⟨by decide, rfl⟩ rfl ⟨rfl, by decide⟩ rfl (Nat.le_of_ble_eq_true rfl) (Nat.zero_add _) (Nat.zero_add _) rfl ?_
  refine r_isSign (c := 60) Hc2 Wc4.1 (fun hg6 => ?_) (fun hg6 => ?_)
  · refine aw_re (S' := [.int 1]) rfl ?_
    refine aw_if_ne (npc := 13) (tgt := 31) dX1_readTest_10 rfl (by decide) (fun _ => ?_) (fun hc => absurd hc (by decide))
    have wkT := Wc4.1.1
    have we2 := wkT.1
    have wf2 := wkT.2.1
    have wf3 : (smF L tp P ρ).1.2.1 < (smF L tp P ρ).1.2.2 := wkT.2.2.2.2.2.1 (by have z := hg6.2.1; omega)
    refine aw_aload_n (npc := 32) rfl dX1_readTest_31 rfl ?_
    refine aw_get (npc := 35) dX1_readTest_32 rfl kf_X1_12 Rd2u.1 rfl ?_
    refine aw_get (npc := 38) dX1_readTest_35 rfl kf_X1_76 Rd2u.2.1 rfl ?_
    refine aw_aload_n (npc := 39) rfl dX1_readTest_38 rfl ?_
    refine aw_get (npc := 42) dX1_readTest_39 rfl kf_X1_25 Rd2u.1 rfl ?_
    refine aw_top (y := nI (smF L tp P (ρ)).1.2.1) (m3_2) ?_
    refine aw_iald (npc := 43) (x := tp ((smF L tp P (ρ)).1.2.1)) (j := ((smF L tp P (ρ)).1.2.1)) dX1_readTest_42 rfl Rd2u.2.2.1 (am_ix_nI (by omega)) (tl_at (by omega)) ?_
    refine aw_istore_n (npc := 44) (L' := [some (.ref 39), some (.int (tp ((smF L tp P (ρ)).1.2.1)))]) dX1_readTest_43 rfl (by decide) rfl rfl ?_
    refine aw_aload_n (npc := 45) rfl dX1_readTest_44 rfl ?_
    refine aw_callV (npc := 48) (N := mX1_advance) (b := 39) (mc := 0) (ms := 0) (A := []) (S := []) (L0 := [some (.ref 39), none, none, none]) dX1_readTest_45 rfl km_X1_advance kk_X1_50 Rd2u.1 ⟨by decide, rfl⟩ rfl ⟨rfl, by decide⟩ rfl (Nat.le_of_ble_eq_true rfl) (Nat.zero_add _) (Nat.zero_add _) rfl ?_
    refine r_adv  Hc2 Wc4.1 (fun hp7 Hr8 fz9 => ?_)
    have fyfz9 : ∀ k, (k < 39 ∨ 43 ≤ k) → hp7 k = _ := fun k hk => fz9 k hk
    have Wf10 : WR L tp (avF L tp (smF L tp P (ρ))) := wr_av Wc4.1
    refine aw_aload_n (npc := 49) rfl dX1_readTest_48 rfl ?_
    obtain ⟨r3u, cd3u, Rd3u, m1_3, m2_3, m3_3, m4_3, m5_3, m7_3, m8_3, m9_3, m10_3, mc_3⟩ := id Hr8
    refine aw_callV (npc := 52) (N := mX1_readSum) (b := 39) (mc := 0) (ms := 0) (A := []) (S := []) (L0 := [some (.ref 39), none, none]) dX1_readTest_49 rfl km_X1_readSum kk_X1_116 Rd3u.1 ⟨by decide, rfl⟩ rfl ⟨rfl, by decide⟩ rfl (Nat.le_of_ble_eq_true rfl) (Nat.zero_add _) (Nat.zero_add _) rfl ?_
    refine aw_dd (d2 := d + 4 + q) (by omega) ?_
    refine hG _ _ _ _ _ _ _ (avF L tp (smF L tp P (ρ))) Hr8 Wf10 hd5 (fun hp11 Hc12 fz13 => ?_)
    have Wc14 := hO (avF L tp (smF L tp P (ρ))) Wf10 hd5
    have fyfz13 : ∀ k, (k < 39 ∨ 43 ≤ k) → hp11 k = _ := fun k hk => fz13 k hk
    have hd15 : 17 ≤ D + (smF L tp P (avF L tp (smF L tp P (ρ)))).2.2.2.2.2.1 + (smF L tp P (avF L tp (smF L tp P (ρ)))).2.2.2.2.2.2 := kp_d Wc14.2 hd5
    refine aw_aload_n (npc := 53) rfl dX1_readTest_52 rfl ?_
    refine aw_iload_n (npc := 54) rfl dX1_readTest_53 rfl ?_
    refine aw_ineg (npc := 55) dX1_readTest_54 rfl ?_
    obtain ⟨r4u, cd4u, Rd4u, m1_4, m2_4, m3_4, m4_4, m5_4, m7_4, m8_4, m9_4, m10_4, mc_4⟩ := id Hc12
    refine aw_callV (npc := 58) (N := mX1_emit) (b := 39) (mc := 0) (ms := 0) (A := [.int (-(tp ((smF L tp P (ρ)).1.2.1)))]) (S := []) (L0 := [some (.ref 39), some (.int (-(tp ((smF L tp P (ρ)).1.2.1))))]) dX1_readTest_55 rfl km_X1_emit kk_X1_109 Rd4u.1 ⟨by decide, rfl⟩ rfl ⟨rfl, by decide⟩ rfl (Nat.le_of_ble_eq_true rfl) (Nat.zero_add _) (Nat.zero_add _) rfl ?_
    refine r_emit (c := (-(tp ((smF L tp P (ρ)).1.2.1)))) Hc12 Wc14.1 (fun hp16 Hr17 fz18 => ?_)
    have fyfz18 : ∀ k, (k < 39 ∨ 43 ≤ k) → hp16 k = _ := fun k hk => fz18 k hk
    have Wf19 : WR L tp (emF (-(tp ((smF L tp P (ρ)).1.2.1))) (smF L tp P (avF L tp (smF L tp P (ρ))))) := wr_em Wc14.1
    refine aw_vret rfl dX1_readTest_58 ?_
    exact hq _ (rx_c (cI_t (show sgT tp (smF L tp P ρ) from Or.inl hg6)).symm Hr17) (am_fpT (fun k (hk : k < 39 ∨ 43 ≤ k) => fyfz18 k (by omega)) (am_fpT (fun k (hk : k < 39 ∨ 43 ≤ k) => fyfz13 k (by omega)) (am_fpT (fun k (hk : k < 39 ∨ 43 ≤ k) => fyfz9 k (by omega)) (am_fpT (fun k (hk : k < 39 ∨ 43 ≤ k) => fyfz3 k (by omega)) am_fp0))))
  · refine aw_re (S' := [.int 0]) rfl ?_
    refine aw_if_ne (npc := 13) (tgt := 31) dX1_readTest_10 rfl (by decide) (fun hc => absurd (by decide) hc) (fun _ => ?_)
    refine aw_aload_n (npc := 14) rfl dX1_readTest_13 rfl ?_
    refine aw_bipush (npc := 16) (v := 61) (by decide) dX1_readTest_14 rfl ?_
    refine aw_callV (npc := 19) (N := mX1_isSign) (b := 39) (mc := 0) (ms := 0) (A := [.int 61]) (S := []) (L0 := [some (.ref 39), some (.int 61)]) dX1_readTest_16 rfl km_X1_isSign kk_X1_105 Rd2u.1 ⟨by decide, rfl⟩ rfl ⟨rfl, by decide⟩ rfl (Nat.le_of_ble_eq_true rfl) (Nat.zero_add _) (Nat.zero_add _) rfl ?_
    refine r_isSign (c := 61) Hc2 Wc4.1 (fun hg20 => ?_) (fun hg20 => ?_)
    · refine aw_re (S' := [.int 1]) rfl ?_
      refine aw_if_ne (npc := 22) (tgt := 31) dX1_readTest_19 rfl (by decide) (fun _ => ?_) (fun hc => absurd hc (by decide))
      have wkT := Wc4.1.1
      have we2 := wkT.1
      have wf2 := wkT.2.1
      have wf3 : (smF L tp P ρ).1.2.1 < (smF L tp P ρ).1.2.2 := wkT.2.2.2.2.2.1 (by have z := hg20.2.1; omega)
      refine aw_aload_n (npc := 32) rfl dX1_readTest_31 rfl ?_
      refine aw_get (npc := 35) dX1_readTest_32 rfl kf_X1_12 Rd2u.1 rfl ?_
      refine aw_get (npc := 38) dX1_readTest_35 rfl kf_X1_76 Rd2u.2.1 rfl ?_
      refine aw_aload_n (npc := 39) rfl dX1_readTest_38 rfl ?_
      refine aw_get (npc := 42) dX1_readTest_39 rfl kf_X1_25 Rd2u.1 rfl ?_
      refine aw_top (y := nI (smF L tp P (ρ)).1.2.1) (m3_2) ?_
      refine aw_iald (npc := 43) (x := tp ((smF L tp P (ρ)).1.2.1)) (j := ((smF L tp P (ρ)).1.2.1)) dX1_readTest_42 rfl Rd2u.2.2.1 (am_ix_nI (by omega)) (tl_at (by omega)) ?_
      refine aw_istore_n (npc := 44) (L' := [some (.ref 39), some (.int (tp ((smF L tp P (ρ)).1.2.1)))]) dX1_readTest_43 rfl (by decide) rfl rfl ?_
      refine aw_aload_n (npc := 45) rfl dX1_readTest_44 rfl ?_
      refine aw_callV (npc := 48) (N := mX1_advance) (b := 39) (mc := 0) (ms := 0) (A := []) (S := []) (L0 := [some (.ref 39), none, none, none]) dX1_readTest_45 rfl km_X1_advance kk_X1_50 Rd2u.1 ⟨by decide, rfl⟩ rfl ⟨rfl, by decide⟩ rfl (Nat.le_of_ble_eq_true rfl) (Nat.zero_add _) (Nat.zero_add _) rfl ?_
      refine r_adv  Hc2 Wc4.1 (fun hp21 Hr22 fz23 => ?_)
      have fyfz23 : ∀ k, (k < 39 ∨ 43 ≤ k) → hp21 k = _ := fun k hk => fz23 k hk
      have Wf24 : WR L tp (avF L tp (smF L tp P (ρ))) := wr_av Wc4.1
      refine aw_aload_n (npc := 49) rfl dX1_readTest_48 rfl ?_
      obtain ⟨r5u, cd5u, Rd5u, m1_5, m2_5, m3_5, m4_5, m5_5, m7_5, m8_5, m9_5, m10_5, mc_5⟩ := id Hr22
      refine aw_callV (npc := 52) (N := mX1_readSum) (b := 39) (mc := 0) (ms := 0) (A := []) (S := []) (L0 := [some (.ref 39), none, none]) dX1_readTest_49 rfl km_X1_readSum kk_X1_116 Rd5u.1 ⟨by decide, rfl⟩ rfl ⟨rfl, by decide⟩ rfl (Nat.le_of_ble_eq_true rfl) (Nat.zero_add _) (Nat.zero_add _) rfl ?_
      refine aw_dd (d2 := d + 4 + q) (by omega) ?_
      refine hG _ _ _ _ _ _ _ (avF L tp (smF L tp P (ρ))) Hr22 Wf24 hd5 (fun hp25 Hc26 fz27 => ?_)
      have Wc28 := hO (avF L tp (smF L tp P (ρ))) Wf24 hd5
      have fyfz27 : ∀ k, (k < 39 ∨ 43 ≤ k) → hp25 k = _ := fun k hk => fz27 k hk
      have hd29 : 17 ≤ D + (smF L tp P (avF L tp (smF L tp P (ρ)))).2.2.2.2.2.1 + (smF L tp P (avF L tp (smF L tp P (ρ)))).2.2.2.2.2.2 := kp_d Wc28.2 hd5
      refine aw_aload_n (npc := 53) rfl dX1_readTest_52 rfl ?_
      refine aw_iload_n (npc := 54) rfl dX1_readTest_53 rfl ?_
      refine aw_ineg (npc := 55) dX1_readTest_54 rfl ?_
      obtain ⟨r6u, cd6u, Rd6u, m1_6, m2_6, m3_6, m4_6, m5_6, m7_6, m8_6, m9_6, m10_6, mc_6⟩ := id Hc26
      refine aw_callV (npc := 58) (N := mX1_emit) (b := 39) (mc := 0) (ms := 0) (A := [.int (-(tp ((smF L tp P (ρ)).1.2.1)))]) (S := []) (L0 := [some (.ref 39), some (.int (-(tp ((smF L tp P (ρ)).1.2.1))))]) dX1_readTest_55 rfl km_X1_emit kk_X1_109 Rd6u.1 ⟨by decide, rfl⟩ rfl ⟨rfl, by decide⟩ rfl (Nat.le_of_ble_eq_true rfl) (Nat.zero_add _) (Nat.zero_add _) rfl ?_
      refine r_emit (c := (-(tp ((smF L tp P (ρ)).1.2.1)))) Hc26 Wc28.1 (fun hp30 Hr31 fz32 => ?_)
      have fyfz32 : ∀ k, (k < 39 ∨ 43 ≤ k) → hp30 k = _ := fun k hk => fz32 k hk
      have Wf33 : WR L tp (emF (-(tp ((smF L tp P (ρ)).1.2.1))) (smF L tp P (avF L tp (smF L tp P (ρ))))) := wr_em Wc28.1
      refine aw_vret rfl dX1_readTest_58 ?_
      exact hq _ (rx_c (cI_t (show sgT tp (smF L tp P ρ) from Or.inr (Or.inl hg20))).symm Hr31) (am_fpT (fun k (hk : k < 39 ∨ 43 ≤ k) => fyfz32 k (by omega)) (am_fpT (fun k (hk : k < 39 ∨ 43 ≤ k) => fyfz27 k (by omega)) (am_fpT (fun k (hk : k < 39 ∨ 43 ≤ k) => fyfz23 k (by omega)) (am_fpT (fun k (hk : k < 39 ∨ 43 ≤ k) => fyfz3 k (by omega)) am_fp0))))
    · refine aw_re (S' := [.int 0]) rfl ?_
      refine aw_if_ne (npc := 22) (tgt := 31) dX1_readTest_19 rfl (by decide) (fun hc => absurd (by decide) hc) (fun _ => ?_)
      refine aw_aload_n (npc := 23) rfl dX1_readTest_22 rfl ?_
      refine aw_bipush (npc := 25) (v := 62) (by decide) dX1_readTest_23 rfl ?_
      refine aw_callV (npc := 28) (N := mX1_isSign) (b := 39) (mc := 0) (ms := 0) (A := [.int 62]) (S := []) (L0 := [some (.ref 39), some (.int 62)]) dX1_readTest_25 rfl km_X1_isSign kk_X1_105 Rd2u.1 ⟨by decide, rfl⟩ rfl ⟨rfl, by decide⟩ rfl (Nat.le_of_ble_eq_true rfl) (Nat.zero_add _) (Nat.zero_add _) rfl ?_
      refine r_isSign (c := 62) Hc2 Wc4.1 (fun hg34 => ?_) (fun hg34 => ?_)
      · refine aw_re (S' := [.int 1]) rfl ?_
        refine aw_if_eq (npc := 31) (tgt := 58) dX1_readTest_28 rfl (by decide) (fun hc => absurd hc (by decide)) (fun _ => ?_)
        have wkT := Wc4.1.1
        have we2 := wkT.1
        have wf2 := wkT.2.1
        have wf3 : (smF L tp P ρ).1.2.1 < (smF L tp P ρ).1.2.2 := wkT.2.2.2.2.2.1 (by have z := hg34.2.1; omega)
        refine aw_aload_n (npc := 32) rfl dX1_readTest_31 rfl ?_
        refine aw_get (npc := 35) dX1_readTest_32 rfl kf_X1_12 Rd2u.1 rfl ?_
        refine aw_get (npc := 38) dX1_readTest_35 rfl kf_X1_76 Rd2u.2.1 rfl ?_
        refine aw_aload_n (npc := 39) rfl dX1_readTest_38 rfl ?_
        refine aw_get (npc := 42) dX1_readTest_39 rfl kf_X1_25 Rd2u.1 rfl ?_
        refine aw_top (y := nI (smF L tp P (ρ)).1.2.1) (m3_2) ?_
        refine aw_iald (npc := 43) (x := tp ((smF L tp P (ρ)).1.2.1)) (j := ((smF L tp P (ρ)).1.2.1)) dX1_readTest_42 rfl Rd2u.2.2.1 (am_ix_nI (by omega)) (tl_at (by omega)) ?_
        refine aw_istore_n (npc := 44) (L' := [some (.ref 39), some (.int (tp ((smF L tp P (ρ)).1.2.1)))]) dX1_readTest_43 rfl (by decide) rfl rfl ?_
        refine aw_aload_n (npc := 45) rfl dX1_readTest_44 rfl ?_
        refine aw_callV (npc := 48) (N := mX1_advance) (b := 39) (mc := 0) (ms := 0) (A := []) (S := []) (L0 := [some (.ref 39), none, none, none]) dX1_readTest_45 rfl km_X1_advance kk_X1_50 Rd2u.1 ⟨by decide, rfl⟩ rfl ⟨rfl, by decide⟩ rfl (Nat.le_of_ble_eq_true rfl) (Nat.zero_add _) (Nat.zero_add _) rfl ?_
        refine r_adv  Hc2 Wc4.1 (fun hp35 Hr36 fz37 => ?_)
        have fyfz37 : ∀ k, (k < 39 ∨ 43 ≤ k) → hp35 k = _ := fun k hk => fz37 k hk
        have Wf38 : WR L tp (avF L tp (smF L tp P (ρ))) := wr_av Wc4.1
        refine aw_aload_n (npc := 49) rfl dX1_readTest_48 rfl ?_
        obtain ⟨r7u, cd7u, Rd7u, m1_7, m2_7, m3_7, m4_7, m5_7, m7_7, m8_7, m9_7, m10_7, mc_7⟩ := id Hr36
        refine aw_callV (npc := 52) (N := mX1_readSum) (b := 39) (mc := 0) (ms := 0) (A := []) (S := []) (L0 := [some (.ref 39), none, none]) dX1_readTest_49 rfl km_X1_readSum kk_X1_116 Rd7u.1 ⟨by decide, rfl⟩ rfl ⟨rfl, by decide⟩ rfl (Nat.le_of_ble_eq_true rfl) (Nat.zero_add _) (Nat.zero_add _) rfl ?_
        refine aw_dd (d2 := d + 4 + q) (by omega) ?_
        refine hG _ _ _ _ _ _ _ (avF L tp (smF L tp P (ρ))) Hr36 Wf38 hd5 (fun hp39 Hc40 fz41 => ?_)
        have Wc42 := hO (avF L tp (smF L tp P (ρ))) Wf38 hd5
        have fyfz41 : ∀ k, (k < 39 ∨ 43 ≤ k) → hp39 k = _ := fun k hk => fz41 k hk
        have hd43 : 17 ≤ D + (smF L tp P (avF L tp (smF L tp P (ρ)))).2.2.2.2.2.1 + (smF L tp P (avF L tp (smF L tp P (ρ)))).2.2.2.2.2.2 := kp_d Wc42.2 hd5
        refine aw_aload_n (npc := 53) rfl dX1_readTest_52 rfl ?_
        refine aw_iload_n (npc := 54) rfl dX1_readTest_53 rfl ?_
        refine aw_ineg (npc := 55) dX1_readTest_54 rfl ?_
        obtain ⟨r8u, cd8u, Rd8u, m1_8, m2_8, m3_8, m4_8, m5_8, m7_8, m8_8, m9_8, m10_8, mc_8⟩ := id Hc40
        refine aw_callV (npc := 58) (N := mX1_emit) (b := 39) (mc := 0) (ms := 0) (A := [.int (-(tp ((smF L tp P (ρ)).1.2.1)))]) (S := []) (L0 := [some (.ref 39), some (.int (-(tp ((smF L tp P (ρ)).1.2.1))))]) dX1_readTest_55 rfl km_X1_emit kk_X1_109 Rd8u.1 ⟨by decide, rfl⟩ rfl ⟨rfl, by decide⟩ rfl (Nat.le_of_ble_eq_true rfl) (Nat.zero_add _) (Nat.zero_add _) rfl ?_
        refine r_emit (c := (-(tp ((smF L tp P (ρ)).1.2.1)))) Hc40 Wc42.1 (fun hp44 Hr45 fz46 => ?_)
        have fyfz46 : ∀ k, (k < 39 ∨ 43 ≤ k) → hp44 k = _ := fun k hk => fz46 k hk
        have Wf47 : WR L tp (emF (-(tp ((smF L tp P (ρ)).1.2.1))) (smF L tp P (avF L tp (smF L tp P (ρ))))) := wr_em Wc42.1
        refine aw_vret rfl dX1_readTest_58 ?_
        exact hq _ (rx_c (cI_t (show sgT tp (smF L tp P ρ) from Or.inr (Or.inr hg34))).symm Hr45) (am_fpT (fun k (hk : k < 39 ∨ 43 ≤ k) => fyfz46 k (by omega)) (am_fpT (fun k (hk : k < 39 ∨ 43 ≤ k) => fyfz41 k (by omega)) (am_fpT (fun k (hk : k < 39 ∨ 43 ≤ k) => fyfz37 k (by omega)) (am_fpT (fun k (hk : k < 39 ∨ 43 ≤ k) => fyfz3 k (by omega)) am_fp0))))
      · refine aw_re (S' := [.int 0]) rfl ?_
        refine aw_if_eq (npc := 31) (tgt := 58) dX1_readTest_28 rfl (by decide) (fun _ => ?_) (fun hc => absurd (by decide) hc)
        refine aw_vret rfl dX1_readTest_58 ?_
        exact hq _ (rx_c (cI_f (show ¬ sgT tp (smF L tp P ρ) from fun z => z.elim hg6 (fun y => y.elim hg20 hg34))).symm Hc2) (am_fpT (fun k (hk : k < 39 ∨ 43 ≤ k) => fyfz3 k (by omega)) am_fp0)
theorem nm_lt {tp : Nat → Int32} {ρ : RS} {j : Nat} (h : nameO tp ρ = some j) : j < 4 := by
  unfold nameO at h
  split at h
  · unfold nmF at h
    repeat' split at h
    all_goals first | (have z := Option.some.inj h; omega) | cases h
  · cases h
theorem og_self (ρ : RS) : ogF (obF ρ ρ.2.2.2.2.2.1) ρ.2.2.2.2.2.2 = ρ := rfl
set_option maxHeartbeats 4000000 in
set_option maxRecDepth 100000 in
theorem r_piece {L : Nat} {tp : Nat → Int32} : ∀ (D : Nat), CM L tp mX1_readPiece [some (.ref 39)] (40 * D) D (pcF L tp D) := by
  intro D
  induction D with
  | zero =>
    intro X d rc rs n Q h ρ H Wf hd hq
    obtain ⟨wk, w96, wcl, wob, wog, wft⟩ := id Wf
    omega
  | succ D ih =>
    intro X d rc rs n Q h ρ H Wf hd hq
    obtain ⟨wk, w96, wcl, wob, wog, wft⟩ := id Wf
    have we := wk.1
    have wf := wk.2.1
    have wt := wk.2.2.1
    have hO := pc_ok (L := L) (tp := tp) D
    have hOr := r_or (P := pcF L tp D) (r_and (P := pcF L tp D) (r_test (P := pcF L tp D) (r_sum (P := pcF L tp D) (r_prod ih hO) (pd_ok hO)) (sm_ok hO)) (tsF_ok hO)) (an_ok hO)
    refine aw_dd (d2 := d + 40 * D + 40) (by omega) ?_
    refine aw_aload_n (npc := 1) rfl dX1_readPiece_0 rfl ?_
    obtain ⟨r1u, cd1u, Rd1u, m1_1, m2_1, m3_1, m4_1, m5_1, m7_1, m8_1, m9_1, m10_1, mc_1⟩ := id H
    refine aw_get (npc := 4) dX1_readPiece_1 rfl kf_X1_28 Rd1u.1 rfl ?_
    refine aw_top (y := fI ρ.2.1) (m4_1) ?_
    refine aw_if_lt (npc := 7) (tgt := 8) dX1_readPiece_4 rfl (by decide) (fun hc1 => ?_) (fun hc1 => ?_)
    · refine aw_aload_n (npc := 9) rfl dX1_readPiece_8 rfl ?_
      refine aw_get (npc := 12) dX1_readPiece_9 rfl kf_X1_22 Rd1u.1 rfl ?_
      refine aw_top (y := nI ρ.1.1) (m2_1) ?_
      refine aw_iconst (npc := 13) (v := 2) (by decide) dX1_readPiece_12 rfl ?_
      refine aw_icmp_ne (npc := 16) (tgt := 31) dX1_readPiece_13 rfl (by decide) (fun hc2 => ?_) (fun hc2 => ?_)
      · have hc2N : ¬ ρ.1.1 = 2 := fun z9q => hc2 ((nI_eq (a := ρ.1.1) (b := 2) (by omega) (by omega)).mpr z9q)
        rcases enm : nameO tp ρ with _ | j
        · refine aw_aload_n (npc := 32) rfl dX1_readPiece_31 rfl ?_
          refine aw_callV (npc := 35) (N := mX1_nameRead) (b := 39) (mc := 0) (ms := 0) (A := []) (S := []) (L0 := [some (.ref 39), none]) dX1_readPiece_32 rfl km_X1_nameRead kk_X1_131 Rd1u.1 ⟨by decide, rfl⟩ rfl ⟨rfl, by decide⟩ rfl (Nat.le_of_ble_eq_true rfl) (Nat.zero_add _) (Nat.zero_add _) rfl ?_
          refine r_name H Wf ?_
          refine aw_re (S' := [.int (bI (nameO tp ρ))]) rfl ?_
          refine aw_top (y := (-1)) (by rw [enm]; rfl) ?_
          refine aw_if_lt (npc := 38) (tgt := 55) dX1_readPiece_35 rfl (by decide) (fun _ => ?_) (fun hc => absurd (by decide) hc)
          refine aw_aload_n (npc := 56) rfl dX1_readPiece_55 rfl ?_
          refine aw_bipush (npc := 58) (v := 33) (by decide) dX1_readPiece_56 rfl ?_
          refine aw_callV (npc := 61) (N := mX1_isSign) (b := 39) (mc := 0) (ms := 0) (A := [.int 33]) (S := []) (L0 := [some (.ref 39), some (.int 33)]) dX1_readPiece_58 rfl km_X1_isSign kk_X1_105 Rd1u.1 ⟨by decide, rfl⟩ rfl ⟨rfl, by decide⟩ rfl (Nat.le_of_ble_eq_true rfl) (Nat.zero_add _) (Nat.zero_add _) rfl ?_
          refine r_isSign (c := 33) H Wf (fun hg3 => ?_) (fun hg3 => ?_)
          · refine aw_re (S' := [.int 1]) rfl ?_
            refine aw_if_eq (npc := 64) (tgt := 110) dX1_readPiece_61 rfl (by decide) (fun hc => absurd hc (by decide)) (fun _ => ?_)
            refine aw_aload_n (npc := 65) rfl dX1_readPiece_64 rfl ?_
            refine aw_get (npc := 68) dX1_readPiece_65 rfl kf_X1_47 Rd1u.1 rfl ?_
            refine aw_top (y := nI ρ.2.2.2.2.2.2) (m10_1) ?_
            refine aw_bipush (npc := 70) (v := 8) (by decide) dX1_readPiece_68 rfl ?_
            refine aw_icmp_ge (npc := 73) (tgt := 110) dX1_readPiece_70 rfl (by decide) (fun hc4 => ?_) (fun hc4 => ?_)
            · have hc4N := (nI_leI (a := 8) (b := ρ.2.2.2.2.2.2) (by omega) (by omega)).mp hc4
              refine aw_aload_n (npc := 111) rfl dX1_readPiece_110 rfl ?_
              refine aw_bipush (npc := 113) (v := 40) (by decide) dX1_readPiece_111 rfl ?_
              refine aw_callV (npc := 116) (N := mX1_isSign) (b := 39) (mc := 0) (ms := 0) (A := [.int 40]) (S := []) (L0 := [some (.ref 39), some (.int 40)]) dX1_readPiece_113 rfl km_X1_isSign kk_X1_105 Rd1u.1 ⟨by decide, rfl⟩ rfl ⟨rfl, by decide⟩ rfl (Nat.le_of_ble_eq_true rfl) (Nat.zero_add _) (Nat.zero_add _) rfl ?_
              refine r_isSign (c := 40) H Wf (fun hg5 => ?_) (fun hg5 => ?_)
              · refine aw_re (S' := [.int 1]) rfl ?_
                refine aw_if_eq (npc := 119) (tgt := 163) dX1_readPiece_116 rfl (by decide) (fun hc => absurd hc (by decide)) (fun _ => ?_)
                refine aw_aload_n (npc := 120) rfl dX1_readPiece_119 rfl ?_
                refine aw_get (npc := 123) dX1_readPiece_120 rfl kf_X1_44 Rd1u.1 rfl ?_
                refine aw_top (y := nI ρ.2.2.2.2.2.1) (m9_1) ?_
                refine aw_bipush (npc := 125) (v := 8) (by decide) dX1_readPiece_123 rfl ?_
                refine aw_icmp_ge (npc := 128) (tgt := 163) dX1_readPiece_125 rfl (by decide) (fun hc6 => ?_) (fun hc6 => ?_)
                · have hc6N := (nI_leI (a := 8) (b := ρ.2.2.2.2.2.1) (by omega) (by omega)).mp hc6
                  refine aw_aload_n (npc := 164) rfl dX1_readPiece_163 rfl ?_
                  refine aw_callV (npc := 167) (N := mX1_fail) (b := 39) (mc := 0) (ms := 0) (A := []) (S := []) (L0 := [some (.ref 39)]) dX1_readPiece_164 rfl km_X1_fail kk_X1_59 Rd1u.1 ⟨by decide, rfl⟩ rfl ⟨rfl, by decide⟩ rfl (Nat.le_of_ble_eq_true rfl) (Nat.zero_add _) (Nat.zero_add _) rfl ?_
                  refine r_fail  H Wf (fun hp7 Hr8 fz9 => ?_)
                  have fyfz9 : ∀ k, (k < 39 ∨ 43 ≤ k) → hp7 k = _ := fun k hk => fz9 k hk
                  have Wf10 : WR L tp (flF ρ) := wr_fl Wf
                  refine aw_vret rfl dX1_readPiece_167 ?_
                  refine hq _ (rx_c ?_ Hr8) (am_fpT (fun k (hk : k < 39 ∨ 43 ≤ k) => fyfz9 k (by omega)) am_fp0)
                  refine (Eq.trans ?_ (cI_t (show ρ.2.1 = none from (fI_neg wft).mp hc1)).symm)
                  refine (Eq.trans ?_ (cI_f hc2N).symm)
                  rw [enm]
                  refine (Eq.trans ?_ (cI_f (fun z => by have z2 := z.2; omega)).symm)
                  exact (cI_f (fun z => by have z2 := z.2; omega)).symm
                · have hc6N : ¬ 8 ≤ ρ.2.2.2.2.2.1 := fun z9q => hc6 ((nI_leI (a := 8) (b := ρ.2.2.2.2.2.1) (by omega) (by omega)).mpr z9q)
                  refine aw_aload_n (npc := 129) rfl dX1_readPiece_128 rfl ?_
                  refine aw_dup (npc := 130) rfl dX1_readPiece_129 rfl ?_
                  refine aw_get (npc := 133) dX1_readPiece_130 rfl kf_X1_44 Rd1u.1 rfl ?_
                  refine aw_top (y := nI ρ.2.2.2.2.2.1) (m9_1) ?_
                  refine aw_iconst (npc := 134) (v := 1) (by decide) dX1_readPiece_133 rfl ?_
                  refine aw_iaddV (npc := 135) (v := nI (ρ.2.2.2.2.2.1 + 1)) dX1_readPiece_134 rfl (nI_add _ 1) ?_
                  refine aw_put (npc := 138) dX1_readPiece_135 rfl kf_X1_44 Rd1u.1 (Nat.le_of_ble_eq_true rfl) (am_ok_int _) rfl ?_
                  have Rd11 := rd_r9 (v := nI (ρ.2.2.2.2.2.1 + 1)) Rd1u
                  have Hp12 : RX (obF ρ (ρ.2.2.2.2.2.1 + 1)) L tp _ := ⟨_, _, Rd11, (((pk_un (by omega))).trans m1_1), (((pk_un (by omega))).trans m2_1), (((pk_un (by omega))).trans m3_1), (((pk_un (by omega))).trans m4_1), (((pk_un (by omega))).trans m5_1), (((pk_un (by omega))).trans m7_1), (((pk_un (by omega))).trans m8_1), (pk_us), (((pk_un (by omega))).trans m10_1), mc_1⟩
                  have Wf13 : WR L tp (obF ρ (ρ.2.2.2.2.2.1 + 1)) := wr_ob (by omega) Wf
                  refine aw_aload_n (npc := 139) rfl dX1_readPiece_138 rfl ?_
                  obtain ⟨r2u, cd2u, Rd2u, m1_2, m2_2, m3_2, m4_2, m5_2, m7_2, m8_2, m9_2, m10_2, mc_2⟩ := id Hp12
                  refine aw_callV (npc := 142) (N := mX1_advance) (b := 39) (mc := 0) (ms := 0) (A := []) (S := []) (L0 := [some (.ref 39), none, none, none]) dX1_readPiece_139 rfl km_X1_advance kk_X1_50 Rd2u.1 ⟨by decide, rfl⟩ rfl ⟨rfl, by decide⟩ rfl (Nat.le_of_ble_eq_true rfl) (Nat.zero_add _) (Nat.zero_add _) rfl ?_
                  refine r_adv  Hp12 Wf13 (fun hp14 Hr15 fz16 => ?_)
                  have fyfz16 : ∀ k, (k < 39 ∨ 43 ≤ k) → hp14 k = _ := fun k hk => fz16 k hk
                  have Wf17 : WR L tp (avF L tp (obF ρ (ρ.2.2.2.2.2.1 + 1))) := wr_av Wf13
                  refine aw_aload_n (npc := 143) rfl dX1_readPiece_142 rfl ?_
                  obtain ⟨r3u, cd3u, Rd3u, m1_3, m2_3, m3_3, m4_3, m5_3, m7_3, m8_3, m9_3, m10_3, mc_3⟩ := id Hr15
                  refine aw_callV (npc := 146) (N := mX1_readOr) (b := 39) (mc := 0) (ms := 0) (A := []) (S := []) (L0 := [some (.ref 39), none]) dX1_readPiece_143 rfl km_X1_readOr kk_X1_56 Rd3u.1 ⟨by decide, rfl⟩ rfl ⟨rfl, by decide⟩ rfl (Nat.le_of_ble_eq_true rfl) (Nat.zero_add _) (Nat.zero_add _) rfl ?_
                  refine aw_dd (d2 := d + 14 + (40 * D + 25)) (by omega) ?_
                  refine hOr _ _ _ _ _ _ _ (avF L tp (obF ρ (ρ.2.2.2.2.2.1 + 1))) Hr15 Wf17 (by show 17 ≤ D + (ρ.2.2.2.2.2.1 + 1) + ρ.2.2.2.2.2.2; omega) (fun hp18 Hc19 fz20 => ?_)
                  have Wc21 := or_ok (pc_ok D) (avF L tp (obF ρ (ρ.2.2.2.2.2.1 + 1))) Wf17 (by show 17 ≤ D + (ρ.2.2.2.2.2.1 + 1) + ρ.2.2.2.2.2.2; omega)
                  have fyfz20 : ∀ k, (k < 39 ∨ 43 ≤ k) → hp18 k = _ := fun k hk => fz20 k hk
                  have eg9 : (orF L tp (pcF L tp D) (avF L tp (obF ρ (ρ.2.2.2.2.2.1 + 1)))).2.2.2.2.2.1 = ρ.2.2.2.2.2.1 + 1 := congrArg (fun z : Nat × Nat => z.1) Wc21.2.2
                  refine aw_aload_n (npc := 147) rfl dX1_readPiece_146 rfl ?_
                  refine aw_dup (npc := 148) rfl dX1_readPiece_147 rfl ?_
                  obtain ⟨r4u, cd4u, Rd4u, m1_4, m2_4, m3_4, m4_4, m5_4, m7_4, m8_4, m9_4, m10_4, mc_4⟩ := id Hc19
                  refine aw_get (npc := 151) dX1_readPiece_148 rfl kf_X1_44 Rd4u.1 rfl ?_
                  refine aw_top (y := nI (orF L tp (pcF L tp D) (avF L tp (obF ρ (ρ.2.2.2.2.2.1 + 1)))).2.2.2.2.2.1) (m9_4) ?_
                  refine aw_iconst (npc := 152) (v := 1) (by decide) dX1_readPiece_151 rfl ?_
                  refine aw_isubV (npc := 153) (v := nI ((orF L tp (pcF L tp D) (avF L tp (obF ρ (ρ.2.2.2.2.2.1 + 1)))).2.2.2.2.2.1 - 1)) dX1_readPiece_152 rfl (pk_sub (b := 1) (by omega)) ?_
                  refine aw_put (npc := 156) dX1_readPiece_153 rfl kf_X1_44 Rd4u.1 (Nat.le_of_ble_eq_true rfl) (am_ok_int _) rfl ?_
                  have Rd22 := rd_r9 (v := nI ((orF L tp (pcF L tp D) (avF L tp (obF ρ (ρ.2.2.2.2.2.1 + 1)))).2.2.2.2.2.1 - 1)) Rd4u
                  have Hp23 : RX (obF (orF L tp (pcF L tp D) (avF L tp (obF ρ (ρ.2.2.2.2.2.1 + 1)))) ρ.2.2.2.2.2.1) L tp _ := ⟨_, _, Rd22, (((pk_un (by omega))).trans m1_4), (((pk_un (by omega))).trans m2_4), (((pk_un (by omega))).trans m3_4), (((pk_un (by omega))).trans m4_4), (((pk_un (by omega))).trans m5_4), (((pk_un (by omega))).trans m7_4), (((pk_un (by omega))).trans m8_4), ((pk_us).trans (show nI ((orF L tp (pcF L tp D) (avF L tp (obF ρ (ρ.2.2.2.2.2.1 + 1)))).2.2.2.2.2.1 - 1) = nI ρ.2.2.2.2.2.1 from congrArg nI (by omega))), (((pk_un (by omega))).trans m10_4), mc_4⟩
                  have Wf24 : WR L tp (obF (orF L tp (pcF L tp D) (avF L tp (obF ρ (ρ.2.2.2.2.2.1 + 1)))) ρ.2.2.2.2.2.1) := wr_ob (by omega) Wc21.1
                  refine aw_aload_n (npc := 157) rfl dX1_readPiece_156 rfl ?_
                  obtain ⟨r5u, cd5u, Rd5u, m1_5, m2_5, m3_5, m4_5, m5_5, m7_5, m8_5, m9_5, m10_5, mc_5⟩ := id Hp23
                  refine aw_callV (npc := 160) (N := mX1_closeBracket) (b := 39) (mc := 0) (ms := 0) (A := []) (S := []) (L0 := [some (.ref 39)]) dX1_readPiece_157 rfl km_X1_closeBracket kk_X1_134 Rd5u.1 ⟨by decide, rfl⟩ rfl ⟨rfl, by decide⟩ rfl (Nat.le_of_ble_eq_true rfl) (Nat.zero_add _) (Nat.zero_add _) rfl ?_
                  refine r_close  Hp23 Wf24 (fun hp25 Hr26 fz27 => ?_)
                  have fyfz27 : ∀ k, (k < 39 ∨ 43 ≤ k) → hp25 k = _ := fun k hk => fz27 k hk
                  have Wf28 : WR L tp (cbF L tp (obF (orF L tp (pcF L tp D) (avF L tp (obF ρ (ρ.2.2.2.2.2.1 + 1)))) ρ.2.2.2.2.2.1)) := wr_cb Wf24
                  refine aw_goto (npc := 167) dX1_readPiece_160 (by decide) ?_
                  refine aw_vret rfl dX1_readPiece_167 ?_
                  refine hq _ (rx_c ?_ Hr26) (am_fpT (fun k (hk : k < 39 ∨ 43 ≤ k) => fyfz27 k (by omega)) (am_fpU (show ¬ (39 < 39 ∨ 43 ≤ 39) by omega) (am_fpT (fun k (hk : k < 39 ∨ 43 ≤ k) => fyfz20 k (by omega)) (am_fpT (fun k (hk : k < 39 ∨ 43 ≤ k) => fyfz16 k (by omega)) (am_fpU (show ¬ (39 < 39 ∨ 43 ≤ 39) by omega) am_fp0)))))
                  refine (Eq.trans ?_ (cI_t (show ρ.2.1 = none from (fI_neg wft).mp hc1)).symm)
                  refine (Eq.trans ?_ (cI_f hc2N).symm)
                  rw [enm]
                  refine (Eq.trans ?_ (cI_f (fun z => by have z2 := z.2; omega)).symm)
                  exact (cI_t (⟨hg5, by omega⟩)).symm
              · refine aw_re (S' := [.int 0]) rfl ?_
                refine aw_if_eq (npc := 119) (tgt := 163) dX1_readPiece_116 rfl (by decide) (fun _ => ?_) (fun hc => absurd (by decide) hc)
                refine aw_aload_n (npc := 164) rfl dX1_readPiece_163 rfl ?_
                refine aw_callV (npc := 167) (N := mX1_fail) (b := 39) (mc := 0) (ms := 0) (A := []) (S := []) (L0 := [some (.ref 39)]) dX1_readPiece_164 rfl km_X1_fail kk_X1_59 Rd1u.1 ⟨by decide, rfl⟩ rfl ⟨rfl, by decide⟩ rfl (Nat.le_of_ble_eq_true rfl) (Nat.zero_add _) (Nat.zero_add _) rfl ?_
                refine r_fail  H Wf (fun hp29 Hr30 fz31 => ?_)
                have fyfz31 : ∀ k, (k < 39 ∨ 43 ≤ k) → hp29 k = _ := fun k hk => fz31 k hk
                have Wf32 : WR L tp (flF ρ) := wr_fl Wf
                refine aw_vret rfl dX1_readPiece_167 ?_
                refine hq _ (rx_c ?_ Hr30) (am_fpT (fun k (hk : k < 39 ∨ 43 ≤ k) => fyfz31 k (by omega)) am_fp0)
                refine (Eq.trans ?_ (cI_t (show ρ.2.1 = none from (fI_neg wft).mp hc1)).symm)
                refine (Eq.trans ?_ (cI_f hc2N).symm)
                rw [enm]
                refine (Eq.trans ?_ (cI_f (fun z => by have z2 := z.2; omega)).symm)
                exact (cI_f (fun z => hg5 z.1)).symm
            · have hc4N : ¬ 8 ≤ ρ.2.2.2.2.2.2 := fun z9q => hc4 ((nI_leI (a := 8) (b := ρ.2.2.2.2.2.2) (by omega) (by omega)).mpr z9q)
              refine aw_aload_n (npc := 74) rfl dX1_readPiece_73 rfl ?_
              refine aw_dup (npc := 75) rfl dX1_readPiece_74 rfl ?_
              refine aw_get (npc := 78) dX1_readPiece_75 rfl kf_X1_47 Rd1u.1 rfl ?_
              refine aw_top (y := nI ρ.2.2.2.2.2.2) (m10_1) ?_
              refine aw_iconst (npc := 79) (v := 1) (by decide) dX1_readPiece_78 rfl ?_
              refine aw_iaddV (npc := 80) (v := nI (ρ.2.2.2.2.2.2 + 1)) dX1_readPiece_79 rfl (nI_add _ 1) ?_
              refine aw_put (npc := 83) dX1_readPiece_80 rfl kf_X1_47 Rd1u.1 (Nat.le_of_ble_eq_true rfl) (am_ok_int _) rfl ?_
              have Rd33 := rd_r10 (v := nI (ρ.2.2.2.2.2.2 + 1)) Rd1u
              have Hp34 : RX (ogF ρ (ρ.2.2.2.2.2.2 + 1)) L tp _ := ⟨_, _, Rd33, (((pk_un (by omega))).trans m1_1), (((pk_un (by omega))).trans m2_1), (((pk_un (by omega))).trans m3_1), (((pk_un (by omega))).trans m4_1), (((pk_un (by omega))).trans m5_1), (((pk_un (by omega))).trans m7_1), (((pk_un (by omega))).trans m8_1), (((pk_un (by omega))).trans m9_1), (pk_us), mc_1⟩
              have Wf35 : WR L tp (ogF ρ (ρ.2.2.2.2.2.2 + 1)) := wr_og (by omega) Wf
              refine aw_aload_n (npc := 84) rfl dX1_readPiece_83 rfl ?_
              obtain ⟨r6u, cd6u, Rd6u, m1_6, m2_6, m3_6, m4_6, m5_6, m7_6, m8_6, m9_6, m10_6, mc_6⟩ := id Hp34
              refine aw_callV (npc := 87) (N := mX1_advance) (b := 39) (mc := 0) (ms := 0) (A := []) (S := []) (L0 := [some (.ref 39), none, none, none]) dX1_readPiece_84 rfl km_X1_advance kk_X1_50 Rd6u.1 ⟨by decide, rfl⟩ rfl ⟨rfl, by decide⟩ rfl (Nat.le_of_ble_eq_true rfl) (Nat.zero_add _) (Nat.zero_add _) rfl ?_
              refine r_adv  Hp34 Wf35 (fun hp36 Hr37 fz38 => ?_)
              have fyfz38 : ∀ k, (k < 39 ∨ 43 ≤ k) → hp36 k = _ := fun k hk => fz38 k hk
              have Wf39 : WR L tp (avF L tp (ogF ρ (ρ.2.2.2.2.2.2 + 1))) := wr_av Wf35
              refine aw_aload_n (npc := 88) rfl dX1_readPiece_87 rfl ?_
              obtain ⟨r7u, cd7u, Rd7u, m1_7, m2_7, m3_7, m4_7, m5_7, m7_7, m8_7, m9_7, m10_7, mc_7⟩ := id Hr37
              refine aw_callV (npc := 91) (N := mX1_readPiece) (b := 39) (mc := 0) (ms := 0) (A := []) (S := []) (L0 := [some (.ref 39)]) dX1_readPiece_88 rfl km_X1_readPiece kk_X1_122 Rd7u.1 ⟨by decide, rfl⟩ rfl ⟨rfl, by decide⟩ rfl (Nat.le_of_ble_eq_true rfl) (Nat.zero_add _) (Nat.zero_add _) rfl ?_
              refine aw_dd (d2 := d + 39 + 40 * D) (by omega) ?_
              refine ih _ _ _ _ _ _ _ (avF L tp (ogF ρ (ρ.2.2.2.2.2.2 + 1))) Hr37 Wf39 (by show 17 ≤ D + ρ.2.2.2.2.2.1 + (ρ.2.2.2.2.2.2 + 1); omega) (fun hp40 Hc41 fz42 => ?_)
              have Wc43 := pc_ok D (avF L tp (ogF ρ (ρ.2.2.2.2.2.2 + 1))) Wf39 (by show 17 ≤ D + ρ.2.2.2.2.2.1 + (ρ.2.2.2.2.2.2 + 1); omega)
              have fyfz42 : ∀ k, (k < 39 ∨ 43 ≤ k) → hp40 k = _ := fun k hk => fz42 k hk
              have eg9 : (pcF L tp D (avF L tp (ogF ρ (ρ.2.2.2.2.2.2 + 1)))).2.2.2.2.2.2 = ρ.2.2.2.2.2.2 + 1 := congrArg (fun z : Nat × Nat => z.2) Wc43.2.2
              refine aw_aload_n (npc := 92) rfl dX1_readPiece_91 rfl ?_
              refine aw_dup (npc := 93) rfl dX1_readPiece_92 rfl ?_
              obtain ⟨r8u, cd8u, Rd8u, m1_8, m2_8, m3_8, m4_8, m5_8, m7_8, m8_8, m9_8, m10_8, mc_8⟩ := id Hc41
              refine aw_get (npc := 96) dX1_readPiece_93 rfl kf_X1_47 Rd8u.1 rfl ?_
              refine aw_top (y := nI (pcF L tp D (avF L tp (ogF ρ (ρ.2.2.2.2.2.2 + 1)))).2.2.2.2.2.2) (m10_8) ?_
              refine aw_iconst (npc := 97) (v := 1) (by decide) dX1_readPiece_96 rfl ?_
              refine aw_isubV (npc := 98) (v := nI ((pcF L tp D (avF L tp (ogF ρ (ρ.2.2.2.2.2.2 + 1)))).2.2.2.2.2.2 - 1)) dX1_readPiece_97 rfl (pk_sub (b := 1) (by omega)) ?_
              refine aw_put (npc := 101) dX1_readPiece_98 rfl kf_X1_47 Rd8u.1 (Nat.le_of_ble_eq_true rfl) (am_ok_int _) rfl ?_
              have Rd44 := rd_r10 (v := nI ((pcF L tp D (avF L tp (ogF ρ (ρ.2.2.2.2.2.2 + 1)))).2.2.2.2.2.2 - 1)) Rd8u
              have Hp45 : RX (ogF (pcF L tp D (avF L tp (ogF ρ (ρ.2.2.2.2.2.2 + 1)))) ρ.2.2.2.2.2.2) L tp _ := ⟨_, _, Rd44, (((pk_un (by omega))).trans m1_8), (((pk_un (by omega))).trans m2_8), (((pk_un (by omega))).trans m3_8), (((pk_un (by omega))).trans m4_8), (((pk_un (by omega))).trans m5_8), (((pk_un (by omega))).trans m7_8), (((pk_un (by omega))).trans m8_8), (((pk_un (by omega))).trans m9_8), ((pk_us).trans (show nI ((pcF L tp D (avF L tp (ogF ρ (ρ.2.2.2.2.2.2 + 1)))).2.2.2.2.2.2 - 1) = nI ρ.2.2.2.2.2.2 from congrArg nI (by omega))), mc_8⟩
              have Wf46 : WR L tp (ogF (pcF L tp D (avF L tp (ogF ρ (ρ.2.2.2.2.2.2 + 1)))) ρ.2.2.2.2.2.2) := wr_og (by omega) Wc43.1
              refine aw_aload_n (npc := 102) rfl dX1_readPiece_101 rfl ?_
              refine aw_bipush (npc := 104) (v := -33) (by decide) dX1_readPiece_102 rfl ?_
              obtain ⟨r9u, cd9u, Rd9u, m1_9, m2_9, m3_9, m4_9, m5_9, m7_9, m8_9, m9_9, m10_9, mc_9⟩ := id Hp45
              refine aw_callV (npc := 107) (N := mX1_emit) (b := 39) (mc := 0) (ms := 0) (A := [.int (-33)]) (S := []) (L0 := [some (.ref 39), some (.int (-33))]) dX1_readPiece_104 rfl km_X1_emit kk_X1_109 Rd9u.1 ⟨by decide, rfl⟩ rfl ⟨rfl, by decide⟩ rfl (Nat.le_of_ble_eq_true rfl) (Nat.zero_add _) (Nat.zero_add _) rfl ?_
              refine r_emit (c := (-33)) Hp45 Wf46 (fun hp47 Hr48 fz49 => ?_)
              have fyfz49 : ∀ k, (k < 39 ∨ 43 ≤ k) → hp47 k = _ := fun k hk => fz49 k hk
              have Wf50 : WR L tp (emF (-33) (ogF (pcF L tp D (avF L tp (ogF ρ (ρ.2.2.2.2.2.2 + 1)))) ρ.2.2.2.2.2.2)) := wr_em Wf46
              refine aw_goto (npc := 167) dX1_readPiece_107 (by decide) ?_
              refine aw_vret rfl dX1_readPiece_167 ?_
              refine hq _ (rx_c ?_ Hr48) (am_fpT (fun k (hk : k < 39 ∨ 43 ≤ k) => fyfz49 k (by omega)) (am_fpU (show ¬ (39 < 39 ∨ 43 ≤ 39) by omega) (am_fpT (fun k (hk : k < 39 ∨ 43 ≤ k) => fyfz42 k (by omega)) (am_fpT (fun k (hk : k < 39 ∨ 43 ≤ k) => fyfz38 k (by omega)) (am_fpU (show ¬ (39 < 39 ∨ 43 ≤ 39) by omega) am_fp0)))))
              refine (Eq.trans ?_ (cI_t (show ρ.2.1 = none from (fI_neg wft).mp hc1)).symm)
              refine (Eq.trans ?_ (cI_f hc2N).symm)
              rw [enm]
              exact (cI_t ⟨hg3, by omega⟩).symm
          · refine aw_re (S' := [.int 0]) rfl ?_
            refine aw_if_eq (npc := 64) (tgt := 110) dX1_readPiece_61 rfl (by decide) (fun _ => ?_) (fun hc => absurd (by decide) hc)
            refine aw_aload_n (npc := 111) rfl dX1_readPiece_110 rfl ?_
            refine aw_bipush (npc := 113) (v := 40) (by decide) dX1_readPiece_111 rfl ?_
            refine aw_callV (npc := 116) (N := mX1_isSign) (b := 39) (mc := 0) (ms := 0) (A := [.int 40]) (S := []) (L0 := [some (.ref 39), some (.int 40)]) dX1_readPiece_113 rfl km_X1_isSign kk_X1_105 Rd1u.1 ⟨by decide, rfl⟩ rfl ⟨rfl, by decide⟩ rfl (Nat.le_of_ble_eq_true rfl) (Nat.zero_add _) (Nat.zero_add _) rfl ?_
            refine r_isSign (c := 40) H Wf (fun hg51 => ?_) (fun hg51 => ?_)
            · refine aw_re (S' := [.int 1]) rfl ?_
              refine aw_if_eq (npc := 119) (tgt := 163) dX1_readPiece_116 rfl (by decide) (fun hc => absurd hc (by decide)) (fun _ => ?_)
              refine aw_aload_n (npc := 120) rfl dX1_readPiece_119 rfl ?_
              refine aw_get (npc := 123) dX1_readPiece_120 rfl kf_X1_44 Rd1u.1 rfl ?_
              refine aw_top (y := nI ρ.2.2.2.2.2.1) (m9_1) ?_
              refine aw_bipush (npc := 125) (v := 8) (by decide) dX1_readPiece_123 rfl ?_
              refine aw_icmp_ge (npc := 128) (tgt := 163) dX1_readPiece_125 rfl (by decide) (fun hc52 => ?_) (fun hc52 => ?_)
              · have hc52N := (nI_leI (a := 8) (b := ρ.2.2.2.2.2.1) (by omega) (by omega)).mp hc52
                refine aw_aload_n (npc := 164) rfl dX1_readPiece_163 rfl ?_
                refine aw_callV (npc := 167) (N := mX1_fail) (b := 39) (mc := 0) (ms := 0) (A := []) (S := []) (L0 := [some (.ref 39)]) dX1_readPiece_164 rfl km_X1_fail kk_X1_59 Rd1u.1 ⟨by decide, rfl⟩ rfl ⟨rfl, by decide⟩ rfl (Nat.le_of_ble_eq_true rfl) (Nat.zero_add _) (Nat.zero_add _) rfl ?_
                refine r_fail  H Wf (fun hp53 Hr54 fz55 => ?_)
                have fyfz55 : ∀ k, (k < 39 ∨ 43 ≤ k) → hp53 k = _ := fun k hk => fz55 k hk
                have Wf56 : WR L tp (flF ρ) := wr_fl Wf
                refine aw_vret rfl dX1_readPiece_167 ?_
                refine hq _ (rx_c ?_ Hr54) (am_fpT (fun k (hk : k < 39 ∨ 43 ≤ k) => fyfz55 k (by omega)) am_fp0)
                refine (Eq.trans ?_ (cI_t (show ρ.2.1 = none from (fI_neg wft).mp hc1)).symm)
                refine (Eq.trans ?_ (cI_f hc2N).symm)
                rw [enm]
                refine (Eq.trans ?_ (cI_f (fun z => hg3 z.1)).symm)
                exact (cI_f (fun z => by have z2 := z.2; omega)).symm
              · have hc52N : ¬ 8 ≤ ρ.2.2.2.2.2.1 := fun z9q => hc52 ((nI_leI (a := 8) (b := ρ.2.2.2.2.2.1) (by omega) (by omega)).mpr z9q)
                refine aw_aload_n (npc := 129) rfl dX1_readPiece_128 rfl ?_
                refine aw_dup (npc := 130) rfl dX1_readPiece_129 rfl ?_
                refine aw_get (npc := 133) dX1_readPiece_130 rfl kf_X1_44 Rd1u.1 rfl ?_
                refine aw_top (y := nI ρ.2.2.2.2.2.1) (m9_1) ?_
                refine aw_iconst (npc := 134) (v := 1) (by decide) dX1_readPiece_133 rfl ?_
                refine aw_iaddV (npc := 135) (v := nI (ρ.2.2.2.2.2.1 + 1)) dX1_readPiece_134 rfl (nI_add _ 1) ?_
                refine aw_put (npc := 138) dX1_readPiece_135 rfl kf_X1_44 Rd1u.1 (Nat.le_of_ble_eq_true rfl) (am_ok_int _) rfl ?_
                have Rd57 := rd_r9 (v := nI (ρ.2.2.2.2.2.1 + 1)) Rd1u
                have Hp58 : RX (obF ρ (ρ.2.2.2.2.2.1 + 1)) L tp _ := ⟨_, _, Rd57, (((pk_un (by omega))).trans m1_1), (((pk_un (by omega))).trans m2_1), (((pk_un (by omega))).trans m3_1), (((pk_un (by omega))).trans m4_1), (((pk_un (by omega))).trans m5_1), (((pk_un (by omega))).trans m7_1), (((pk_un (by omega))).trans m8_1), (pk_us), (((pk_un (by omega))).trans m10_1), mc_1⟩
                have Wf59 : WR L tp (obF ρ (ρ.2.2.2.2.2.1 + 1)) := wr_ob (by omega) Wf
                refine aw_aload_n (npc := 139) rfl dX1_readPiece_138 rfl ?_
                obtain ⟨r10u, cd10u, Rd10u, m1_10, m2_10, m3_10, m4_10, m5_10, m7_10, m8_10, m9_10, m10_10, mc_10⟩ := id Hp58
                refine aw_callV (npc := 142) (N := mX1_advance) (b := 39) (mc := 0) (ms := 0) (A := []) (S := []) (L0 := [some (.ref 39), none, none, none]) dX1_readPiece_139 rfl km_X1_advance kk_X1_50 Rd10u.1 ⟨by decide, rfl⟩ rfl ⟨rfl, by decide⟩ rfl (Nat.le_of_ble_eq_true rfl) (Nat.zero_add _) (Nat.zero_add _) rfl ?_
                refine r_adv  Hp58 Wf59 (fun hp60 Hr61 fz62 => ?_)
                have fyfz62 : ∀ k, (k < 39 ∨ 43 ≤ k) → hp60 k = _ := fun k hk => fz62 k hk
                have Wf63 : WR L tp (avF L tp (obF ρ (ρ.2.2.2.2.2.1 + 1))) := wr_av Wf59
                refine aw_aload_n (npc := 143) rfl dX1_readPiece_142 rfl ?_
                obtain ⟨r11u, cd11u, Rd11u, m1_11, m2_11, m3_11, m4_11, m5_11, m7_11, m8_11, m9_11, m10_11, mc_11⟩ := id Hr61
                refine aw_callV (npc := 146) (N := mX1_readOr) (b := 39) (mc := 0) (ms := 0) (A := []) (S := []) (L0 := [some (.ref 39), none]) dX1_readPiece_143 rfl km_X1_readOr kk_X1_56 Rd11u.1 ⟨by decide, rfl⟩ rfl ⟨rfl, by decide⟩ rfl (Nat.le_of_ble_eq_true rfl) (Nat.zero_add _) (Nat.zero_add _) rfl ?_
                refine aw_dd (d2 := d + 14 + (40 * D + 25)) (by omega) ?_
                refine hOr _ _ _ _ _ _ _ (avF L tp (obF ρ (ρ.2.2.2.2.2.1 + 1))) Hr61 Wf63 (by show 17 ≤ D + (ρ.2.2.2.2.2.1 + 1) + ρ.2.2.2.2.2.2; omega) (fun hp64 Hc65 fz66 => ?_)
                have Wc67 := or_ok (pc_ok D) (avF L tp (obF ρ (ρ.2.2.2.2.2.1 + 1))) Wf63 (by show 17 ≤ D + (ρ.2.2.2.2.2.1 + 1) + ρ.2.2.2.2.2.2; omega)
                have fyfz66 : ∀ k, (k < 39 ∨ 43 ≤ k) → hp64 k = _ := fun k hk => fz66 k hk
                have eg9 : (orF L tp (pcF L tp D) (avF L tp (obF ρ (ρ.2.2.2.2.2.1 + 1)))).2.2.2.2.2.1 = ρ.2.2.2.2.2.1 + 1 := congrArg (fun z : Nat × Nat => z.1) Wc67.2.2
                refine aw_aload_n (npc := 147) rfl dX1_readPiece_146 rfl ?_
                refine aw_dup (npc := 148) rfl dX1_readPiece_147 rfl ?_
                obtain ⟨r12u, cd12u, Rd12u, m1_12, m2_12, m3_12, m4_12, m5_12, m7_12, m8_12, m9_12, m10_12, mc_12⟩ := id Hc65
                refine aw_get (npc := 151) dX1_readPiece_148 rfl kf_X1_44 Rd12u.1 rfl ?_
                refine aw_top (y := nI (orF L tp (pcF L tp D) (avF L tp (obF ρ (ρ.2.2.2.2.2.1 + 1)))).2.2.2.2.2.1) (m9_12) ?_
                refine aw_iconst (npc := 152) (v := 1) (by decide) dX1_readPiece_151 rfl ?_
                refine aw_isubV (npc := 153) (v := nI ((orF L tp (pcF L tp D) (avF L tp (obF ρ (ρ.2.2.2.2.2.1 + 1)))).2.2.2.2.2.1 - 1)) dX1_readPiece_152 rfl (pk_sub (b := 1) (by omega)) ?_
                refine aw_put (npc := 156) dX1_readPiece_153 rfl kf_X1_44 Rd12u.1 (Nat.le_of_ble_eq_true rfl) (am_ok_int _) rfl ?_
                have Rd68 := rd_r9 (v := nI ((orF L tp (pcF L tp D) (avF L tp (obF ρ (ρ.2.2.2.2.2.1 + 1)))).2.2.2.2.2.1 - 1)) Rd12u
                have Hp69 : RX (obF (orF L tp (pcF L tp D) (avF L tp (obF ρ (ρ.2.2.2.2.2.1 + 1)))) ρ.2.2.2.2.2.1) L tp _ := ⟨_, _, Rd68, (((pk_un (by omega))).trans m1_12), (((pk_un (by omega))).trans m2_12), (((pk_un (by omega))).trans m3_12), (((pk_un (by omega))).trans m4_12), (((pk_un (by omega))).trans m5_12), (((pk_un (by omega))).trans m7_12), (((pk_un (by omega))).trans m8_12), ((pk_us).trans (show nI ((orF L tp (pcF L tp D) (avF L tp (obF ρ (ρ.2.2.2.2.2.1 + 1)))).2.2.2.2.2.1 - 1) = nI ρ.2.2.2.2.2.1 from congrArg nI (by omega))), (((pk_un (by omega))).trans m10_12), mc_12⟩
                have Wf70 : WR L tp (obF (orF L tp (pcF L tp D) (avF L tp (obF ρ (ρ.2.2.2.2.2.1 + 1)))) ρ.2.2.2.2.2.1) := wr_ob (by omega) Wc67.1
                refine aw_aload_n (npc := 157) rfl dX1_readPiece_156 rfl ?_
                obtain ⟨r13u, cd13u, Rd13u, m1_13, m2_13, m3_13, m4_13, m5_13, m7_13, m8_13, m9_13, m10_13, mc_13⟩ := id Hp69
                refine aw_callV (npc := 160) (N := mX1_closeBracket) (b := 39) (mc := 0) (ms := 0) (A := []) (S := []) (L0 := [some (.ref 39)]) dX1_readPiece_157 rfl km_X1_closeBracket kk_X1_134 Rd13u.1 ⟨by decide, rfl⟩ rfl ⟨rfl, by decide⟩ rfl (Nat.le_of_ble_eq_true rfl) (Nat.zero_add _) (Nat.zero_add _) rfl ?_
                refine r_close  Hp69 Wf70 (fun hp71 Hr72 fz73 => ?_)
                have fyfz73 : ∀ k, (k < 39 ∨ 43 ≤ k) → hp71 k = _ := fun k hk => fz73 k hk
                have Wf74 : WR L tp (cbF L tp (obF (orF L tp (pcF L tp D) (avF L tp (obF ρ (ρ.2.2.2.2.2.1 + 1)))) ρ.2.2.2.2.2.1)) := wr_cb Wf70
                refine aw_goto (npc := 167) dX1_readPiece_160 (by decide) ?_
                refine aw_vret rfl dX1_readPiece_167 ?_
                refine hq _ (rx_c ?_ Hr72) (am_fpT (fun k (hk : k < 39 ∨ 43 ≤ k) => fyfz73 k (by omega)) (am_fpU (show ¬ (39 < 39 ∨ 43 ≤ 39) by omega) (am_fpT (fun k (hk : k < 39 ∨ 43 ≤ k) => fyfz66 k (by omega)) (am_fpT (fun k (hk : k < 39 ∨ 43 ≤ k) => fyfz62 k (by omega)) (am_fpU (show ¬ (39 < 39 ∨ 43 ≤ 39) by omega) am_fp0)))))
                refine (Eq.trans ?_ (cI_t (show ρ.2.1 = none from (fI_neg wft).mp hc1)).symm)
                refine (Eq.trans ?_ (cI_f hc2N).symm)
                rw [enm]
                refine (Eq.trans ?_ (cI_f (fun z => hg3 z.1)).symm)
                exact (cI_t (⟨hg51, by omega⟩)).symm
            · refine aw_re (S' := [.int 0]) rfl ?_
              refine aw_if_eq (npc := 119) (tgt := 163) dX1_readPiece_116 rfl (by decide) (fun _ => ?_) (fun hc => absurd (by decide) hc)
              refine aw_aload_n (npc := 164) rfl dX1_readPiece_163 rfl ?_
              refine aw_callV (npc := 167) (N := mX1_fail) (b := 39) (mc := 0) (ms := 0) (A := []) (S := []) (L0 := [some (.ref 39)]) dX1_readPiece_164 rfl km_X1_fail kk_X1_59 Rd1u.1 ⟨by decide, rfl⟩ rfl ⟨rfl, by decide⟩ rfl (Nat.le_of_ble_eq_true rfl) (Nat.zero_add _) (Nat.zero_add _) rfl ?_
              refine r_fail  H Wf (fun hp75 Hr76 fz77 => ?_)
              have fyfz77 : ∀ k, (k < 39 ∨ 43 ≤ k) → hp75 k = _ := fun k hk => fz77 k hk
              have Wf78 : WR L tp (flF ρ) := wr_fl Wf
              refine aw_vret rfl dX1_readPiece_167 ?_
              refine hq _ (rx_c ?_ Hr76) (am_fpT (fun k (hk : k < 39 ∨ 43 ≤ k) => fyfz77 k (by omega)) am_fp0)
              refine (Eq.trans ?_ (cI_t (show ρ.2.1 = none from (fI_neg wft).mp hc1)).symm)
              refine (Eq.trans ?_ (cI_f hc2N).symm)
              rw [enm]
              refine (Eq.trans ?_ (cI_f (fun z => hg3 z.1)).symm)
              exact (cI_f (fun z => hg51 z.1)).symm
        · have hj := nm_lt enm
          refine aw_aload_n (npc := 32) rfl dX1_readPiece_31 rfl ?_
          refine aw_callV (npc := 35) (N := mX1_nameRead) (b := 39) (mc := 0) (ms := 0) (A := []) (S := []) (L0 := [some (.ref 39), none]) dX1_readPiece_32 rfl km_X1_nameRead kk_X1_131 Rd1u.1 ⟨by decide, rfl⟩ rfl ⟨rfl, by decide⟩ rfl (Nat.le_of_ble_eq_true rfl) (Nat.zero_add _) (Nat.zero_add _) rfl ?_
          refine r_name H Wf ?_
          refine aw_re (S' := [.int (bI (nameO tp ρ))]) rfl ?_
          refine aw_top (y := nI j) (by rw [enm]; rfl) ?_
          refine aw_if_lt (npc := 38) (tgt := 55) dX1_readPiece_35 rfl (by decide) (fun hc => absurd hc (nI_pos (by omega))) (fun _ => ?_)
          refine aw_aload_n (npc := 39) rfl dX1_readPiece_38 rfl ?_
          refine aw_iconst (npc := 40) (v := -1) (by decide) dX1_readPiece_39 rfl ?_
          refine aw_aload_n (npc := 41) rfl dX1_readPiece_40 rfl ?_
          refine aw_callV (npc := 44) (N := mX1_nameRead) (b := 39) (mc := 0) (ms := 0) (A := []) (S := [.int (-1), .ref 39]) (L0 := [some (.ref 39), none]) dX1_readPiece_41 rfl km_X1_nameRead kk_X1_131 Rd1u.1 ⟨by decide, rfl⟩ rfl ⟨rfl, by decide⟩ rfl (Nat.le_of_ble_eq_true rfl) (Nat.zero_add _) (Nat.zero_add _) rfl ?_
          refine r_name H Wf ?_
          refine aw_re (S' := [.int (bI (nameO tp ρ)), .int (-1), .ref 39]) rfl ?_
          refine aw_top (y := nI j) (by rw [enm]; rfl) ?_
          refine aw_isub (npc := 45) dX1_readPiece_44 rfl ?_
          refine aw_callV (npc := 48) (N := mX1_emitOperand) (b := 39) (mc := 0) (ms := 0) (A := [.int ((-1) - (nI j))]) (S := []) (L0 := [some (.ref 39), some (.int ((-1) - (nI j)))]) dX1_readPiece_45 rfl km_X1_emitOperand kk_X1_128 Rd1u.1 ⟨by decide, rfl⟩ rfl ⟨rfl, by decide⟩ rfl (Nat.le_of_ble_eq_true rfl) (Nat.zero_add _) (Nat.zero_add _) rfl ?_
          refine r_eo (c := ((-1) - (nI j))) H Wf (fun hp80 Hr81 fz82 => ?_)
          have fyfz82 : ∀ k, (k < 39 ∨ 43 ≤ k) → hp80 k = _ := fun k hk => fz82 k hk
          have Wf83 : WR L tp (eoF ((-1) - (nI j)) ρ) := wr_eo Wf
          refine aw_aload_n (npc := 49) rfl dX1_readPiece_48 rfl ?_
          obtain ⟨r14u, cd14u, Rd14u, m1_14, m2_14, m3_14, m4_14, m5_14, m7_14, m8_14, m9_14, m10_14, mc_14⟩ := id Hr81
          refine aw_callV (npc := 52) (N := mX1_advance) (b := 39) (mc := 0) (ms := 0) (A := []) (S := []) (L0 := [some (.ref 39), none, none, none]) dX1_readPiece_49 rfl km_X1_advance kk_X1_50 Rd14u.1 ⟨by decide, rfl⟩ rfl ⟨rfl, by decide⟩ rfl (Nat.le_of_ble_eq_true rfl) (Nat.zero_add _) (Nat.zero_add _) rfl ?_
          refine r_adv  Hr81 Wf83 (fun hp84 Hr85 fz86 => ?_)
          have fyfz86 : ∀ k, (k < 39 ∨ 43 ≤ k) → hp84 k = _ := fun k hk => fz86 k hk
          have Wf87 : WR L tp (avF L tp (eoF ((-1) - (nI j)) ρ)) := wr_av Wf83
          refine aw_goto (npc := 167) dX1_readPiece_52 (by decide) ?_
          refine aw_vret rfl dX1_readPiece_167 ?_
          refine hq _ (rx_c ?_ Hr85) (am_fpT (fun k (hk : k < 39 ∨ 43 ≤ k) => fyfz86 k (by omega)) (am_fpT (fun k (hk : k < 39 ∨ 43 ≤ k) => fyfz82 k (by omega)) am_fp0))
          refine (Eq.trans ?_ (cI_t (show ρ.2.1 = none from (fI_neg wft).mp hc1)).symm)
          refine (Eq.trans ?_ (cI_f hc2N).symm)
          rw [enm]
      · have hc2N := (nI_eq (a := ρ.1.1) (b := 2) (by omega) (by omega)).mp hc2
        refine aw_aload_n (npc := 17) rfl dX1_readPiece_16 rfl ?_
        refine aw_aload_n (npc := 18) rfl dX1_readPiece_17 rfl ?_
        refine aw_callV (npc := 21) (N := mX1_numberRead) (b := 39) (mc := 0) (ms := 0) (A := []) (S := [.ref 39]) (L0 := [some (.ref 39), none, none]) dX1_readPiece_18 rfl km_X1_numberRead kk_X1_125 Rd1u.1 ⟨by decide, rfl⟩ rfl ⟨rfl, by decide⟩ rfl (Nat.le_of_ble_eq_true rfl) (Nat.zero_add _) (Nat.zero_add _) rfl ?_
        refine r_num H Wf ?_
        refine aw_re (S' := [.int (numF tp ρ), .ref 39]) rfl ?_
        refine aw_callV (npc := 24) (N := mX1_emitOperand) (b := 39) (mc := 0) (ms := 0) (A := [.int (numF tp ρ)]) (S := []) (L0 := [some (.ref 39), some (.int (numF tp ρ))]) dX1_readPiece_21 rfl km_X1_emitOperand kk_X1_128 Rd1u.1 ⟨by decide, rfl⟩ rfl ⟨rfl, by decide⟩ rfl (Nat.le_of_ble_eq_true rfl) (Nat.zero_add _) (Nat.zero_add _) rfl ?_
        refine r_eo (c := (numF tp ρ)) H Wf (fun hp88 Hr89 fz90 => ?_)
        have fyfz90 : ∀ k, (k < 39 ∨ 43 ≤ k) → hp88 k = _ := fun k hk => fz90 k hk
        have Wf91 : WR L tp (eoF (numF tp ρ) ρ) := wr_eo Wf
        refine aw_aload_n (npc := 25) rfl dX1_readPiece_24 rfl ?_
        obtain ⟨r15u, cd15u, Rd15u, m1_15, m2_15, m3_15, m4_15, m5_15, m7_15, m8_15, m9_15, m10_15, mc_15⟩ := id Hr89
        refine aw_callV (npc := 28) (N := mX1_advance) (b := 39) (mc := 0) (ms := 0) (A := []) (S := []) (L0 := [some (.ref 39), none, none, none]) dX1_readPiece_25 rfl km_X1_advance kk_X1_50 Rd15u.1 ⟨by decide, rfl⟩ rfl ⟨rfl, by decide⟩ rfl (Nat.le_of_ble_eq_true rfl) (Nat.zero_add _) (Nat.zero_add _) rfl ?_
        refine r_adv  Hr89 Wf91 (fun hp92 Hr93 fz94 => ?_)
        have fyfz94 : ∀ k, (k < 39 ∨ 43 ≤ k) → hp92 k = _ := fun k hk => fz94 k hk
        have Wf95 : WR L tp (avF L tp (eoF (numF tp ρ) ρ)) := wr_av Wf91
        refine aw_goto (npc := 167) dX1_readPiece_28 (by decide) ?_
        refine aw_vret rfl dX1_readPiece_167 ?_
        refine hq _ (rx_c ?_ Hr93) (am_fpT (fun k (hk : k < 39 ∨ 43 ≤ k) => fyfz94 k (by omega)) (am_fpT (fun k (hk : k < 39 ∨ 43 ≤ k) => fyfz90 k (by omega)) am_fp0))
        refine (Eq.trans ?_ (cI_t (show ρ.2.1 = none from (fI_neg wft).mp hc1)).symm)
        exact (cI_t hc2N).symm
    · refine aw_vret rfl dX1_readPiece_7 ?_
      exact hq _ (rx_c (cI_f (fun z => hc1 ((fI_neg wft).mpr z))).symm H) am_fp0
def RM3 (ρ : RS) (r cd : Nat → Int32) : Prop := r 1 = nI ρ.1.2.2 ∧ r 2 = nI ρ.1.1 ∧ r 4 = fI ρ.2.1 ∧ r 5 = ρ.2.2.1 ∧ r 7 = nI ρ.2.2.2.1.length ∧ r 8 = nI ρ.2.2.2.2.1 ∧ r 9 = nI ρ.2.2.2.2.2.1 ∧ r 10 = nI ρ.2.2.2.2.2.2 ∧ (∀ j, j < ρ.2.2.2.1.length → cd j = ρ.2.2.2.1.getD j 0)
def ρI (k : Int32) : RS := ((0, 0, 0), none, k, [], 0, 0, 0)
noncomputable def ffC (L : Nat) (tp : Nat → Int32) (k : Int32) : RS := orF L tp (pcF L tp 17) (rkF L tp (avF L tp (ρI k)))
noncomputable def ffF (L : Nat) (tp : Nat → Int32) (k : Int32) : RS := cI ((ffC L tp k).1.1 = 0) (ffC L tp k) (flF (ffC L tp k))
set_option maxHeartbeats 4000000 in
set_option maxRecDepth 100000 in
theorem r_adv3 {X : List Int32} {d rc rs n : Nat} {Q : am_Q} {h : am_H} {L : Nat} {tp : Nat → Int32} {ρ : RS} (H : ∃ r cd, RD r (nI L) tp cd h ∧ RM3 ρ r cd) (w96 : L ≤ 96) (we : ρ.1.2.2 ≤ L) (wt : ρ.1.1 ≤ 5) (hq : ∀ h9, RX (avF L tp ρ) L tp h9 → am_fp (fun k => k < 39 ∨ 43 ≤ k) h9 h → Q none n h9) : AW X mX1_advance (d + 4) rc rs 0 [some (.ref 39), none, none, none] [] n h Q := by
  obtain ⟨r, cd, Rd, m1, m2, m4, m5, m7, m8, m9, m10, mc⟩ := H
  have wf : True := trivial
  refine aw_aload_n (npc := 1) rfl dX1_advance_0 rfl ?_
  refine aw_get (npc := 4) dX1_advance_1 rfl kf_X1_18 Rd.1 rfl ?_
  refine aw_top (y := nI ρ.1.2.2) (m1) ?_
  refine aw_istore_n (npc := 5) (L' := [some (.ref 39), some (.int (nI ρ.1.2.2)), none, none]) dX1_advance_4 rfl (by decide) rfl rfl ?_
  refine aw_aload_n (npc := 6) rfl dX1_advance_5 rfl ?_
  refine aw_get (npc := 9) dX1_advance_6 rfl kf_X1_22 Rd.1 rfl ?_
  refine aw_top (y := nI ρ.1.1) (m2) ?_
  refine aw_iconst (npc := 10) (v := 1) (by decide) dX1_advance_9 rfl ?_
  refine aw_icmp_eq (npc := 13) (tgt := 21) dX1_advance_10 rfl (by decide) (fun hc1 => ?_) (fun hc1 => ?_)
  · have hc1N := (nI_eq (a := ρ.1.1) (b := 1) (by omega) (by omega)).mp hc1
    refine aw_iconst (npc := 22) (v := 1) (by decide) dX1_advance_21 rfl ?_
    refine aw_goto (npc := 26) dX1_advance_22 (by decide) ?_
    refine aw_istore_n (npc := 27) (L' := [some (.ref 39), some (.int (nI ρ.1.2.2)), some (.int 1), none]) dX1_advance_26 rfl (by decide) rfl rfl ?_
    have hwd : wd ρ.1 = true := decide_eq_true (Or.inl hc1N)
    refine r_bl w96 (L - ρ.1.2.2) ρ.1.2.2 (by omega) _ _ Rd m1 (fun r1 h1 q1 q2 Rd1 f1 => ?_)
    have hsk := skB_p (tp := tp) (L - ρ.1.2.2) ρ.1.2.2
    have hsk1 : ρ.1.2.2 ≤ sk L tp ρ.1.2.2 := hsk.1
    have hsk2 : sk L tp ρ.1.2.2 ≤ L := by have z := hsk.2.1; show skB tp (L - ρ.1.2.2) ρ.1.2.2 ≤ L; omega
    refine aw_aload_n (npc := 72) rfl dX1_advance_71 rfl ?_
    refine aw_aload_n (npc := 73) rfl dX1_advance_72 rfl ?_
    refine aw_get (npc := 76) dX1_advance_73 rfl kf_X1_18 Rd1.1 rfl ?_
    refine aw_top (y := nI (sk L tp ρ.1.2.2)) (q1) ?_
    refine aw_put (npc := 79) dX1_advance_76 rfl kf_X1_25 Rd1.1 (Nat.le_of_ble_eq_true rfl) (am_ok_int _) rfl ?_
    have Rd2 := rd_r3 (v := nI (sk L tp ρ.1.2.2)) Rd1
    refine aw_aload_n (npc := 80) rfl dX1_advance_79 rfl ?_
    refine aw_get (npc := 83) dX1_advance_80 rfl kf_X1_18 Rd2.1 rfl ?_
    refine aw_top (y := r1 1) ((pk_un (by omega))) ?_
    refine aw_top (y := nI (sk L tp ρ.1.2.2)) (q1) ?_
    refine aw_aload_n (npc := 84) rfl dX1_advance_83 rfl ?_
    refine aw_get (npc := 87) dX1_advance_84 rfl kf_X1_12 Rd2.1 rfl ?_
    refine aw_get (npc := 90) dX1_advance_87 rfl kf_X1_73 Rd2.2.1 rfl ?_
    refine aw_icmp_lt (npc := 93) (tgt := 99) dX1_advance_90 rfl (by decide) (fun hc3 => ?_) (fun hc3 => ?_)
    · have hc3N := (nI_ltI (a := (sk L tp ρ.1.2.2)) (b := L) (by omega) (by omega)).mp hc3
      refine aw_aload_n (npc := 100) rfl dX1_advance_99 rfl ?_
      refine aw_aload_n (npc := 101) rfl dX1_advance_100 rfl ?_
      refine aw_get (npc := 104) dX1_advance_101 rfl kf_X1_12 Rd2.1 rfl ?_
      refine aw_get (npc := 107) dX1_advance_104 rfl kf_X1_76 Rd2.2.1 rfl ?_
      refine aw_aload_n (npc := 108) rfl dX1_advance_107 rfl ?_
      refine aw_get (npc := 111) dX1_advance_108 rfl kf_X1_18 Rd2.1 rfl ?_
      refine aw_top (y := r1 1) ((pk_un (by omega))) ?_
      refine aw_top (y := nI (sk L tp ρ.1.2.2)) (q1) ?_
      refine aw_iald (npc := 112) (x := tp (sk L tp ρ.1.2.2)) (j := (sk L tp ρ.1.2.2)) dX1_advance_111 rfl Rd2.2.2.1 (am_ix_nI (by omega)) (tl_at (by omega)) ?_
      refine aw_callS (npc := 115) (N := mX1_sortOf) (mc := 0) (ms := 0) (A := [.int (tp (sk L tp ρ.1.2.2))]) (S := [.ref 39]) (L0 := [some (.int (tp (sk L tp ρ.1.2.2)))]) dX1_advance_112 rfl km_X1_sortOf kk_X1_79 rfl ⟨rfl, by decide⟩ rfl (Nat.le_of_ble_eq_true rfl) (Nat.zero_add _) (Nat.zero_add _) rfl ?_
      refine r_sort ?_
      have hso4 := so_le (tp (sk L tp ρ.1.2.2))
      refine aw_re (S' := [.int (nI (so (tp (sk L tp ρ.1.2.2)))), .ref 39]) rfl ?_
      refine aw_put (npc := 118) dX1_advance_115 rfl kf_X1_22 Rd2.1 (Nat.le_of_ble_eq_true rfl) (am_ok_int _) rfl ?_
      have Rd5 := rd_r2 (v := nI (so (tp (sk L tp ρ.1.2.2)))) Rd2
      refine aw_aload_n (npc := 119) rfl dX1_advance_118 rfl ?_
      refine aw_dup (npc := 120) rfl dX1_advance_119 rfl ?_
      refine aw_get (npc := 123) dX1_advance_120 rfl kf_X1_18 Rd5.1 rfl ?_
      refine aw_top (y := r1 1) (((pk_un (by omega))).trans (pk_un (by omega))) ?_
      refine aw_top (y := nI (sk L tp ρ.1.2.2)) (q1) ?_
      refine aw_iconst (npc := 124) (v := 1) (by decide) dX1_advance_123 rfl ?_
      refine aw_iaddV (npc := 125) (v := nI ((sk L tp ρ.1.2.2) + 1)) dX1_advance_124 rfl (nI_add _ 1) ?_
      refine aw_put (npc := 128) dX1_advance_125 rfl kf_X1_18 Rd5.1 (Nat.le_of_ble_eq_true rfl) (am_ok_int _) rfl ?_
      have Rd6 := rd_r1 (v := nI ((sk L tp ρ.1.2.2) + 1)) Rd5
      refine aw_aload_n (npc := 129) rfl dX1_advance_128 rfl ?_
      refine aw_get (npc := 132) dX1_advance_129 rfl kf_X1_22 Rd6.1 rfl ?_
      refine aw_top (y := nI (so (tp (sk L tp ρ.1.2.2)))) (((pk_un (by omega))).trans pk_us) ?_
      refine aw_iconst (npc := 133) (v := 3) (by decide) dX1_advance_132 rfl ?_
      refine aw_icmp_ne (npc := 136) (tgt := 137) dX1_advance_133 rfl (by decide) (fun hc7 => ?_) (fun hc7 => ?_)
      · have hc7N : ¬ (so (tp (sk L tp ρ.1.2.2))) = 3 := fun z9q => hc7 ((nI_eq (a := (so (tp (sk L tp ρ.1.2.2)))) (b := 3) (by omega) (by omega)).mpr z9q)
        have hso2 : so (tp (sk L tp ρ.1.2.2)) ≤ 4 := so_le _
        refine r_wl (t := so (tp (sk L tp ρ.1.2.2))) w96 (by omega) (L - (sk L tp ρ.1.2.2 + 1)) (sk L tp ρ.1.2.2 + 1) (by omega) _ _ Rd6 pk_us (((pk_un (by decide)).trans pk_us)) (fun r2 h2 p1 p2 Rd2 f2 => ?_)
        have hrn := rnB_p (tp := tp) (t := so (tp (sk L tp ρ.1.2.2))) (L - (sk L tp ρ.1.2.2 + 1)) (sk L tp ρ.1.2.2 + 1)
        have hrn1 : sk L tp ρ.1.2.2 + 1 ≤ rn L tp (so (tp (sk L tp ρ.1.2.2))) (sk L tp ρ.1.2.2 + 1) := hrn.1
        have hrn2 : rn L tp (so (tp (sk L tp ρ.1.2.2))) (sk L tp ρ.1.2.2 + 1) ≤ L := by have z := hrn.2.1; show rnB tp _ (L - (sk L tp ρ.1.2.2 + 1)) (sk L tp ρ.1.2.2 + 1) ≤ L; omega
        have p22 : r2 2 = nI (so (tp (sk L tp ρ.1.2.2))) := (p2 2 (by decide)).trans ((pk_un (by decide)).trans pk_us)
        have p23 : r2 3 = nI (sk L tp ρ.1.2.2) := (p2 3 (by decide)).trans ((pk_un (by decide)).trans ((pk_un (by decide)).trans pk_us))
        refine aw_iload_n (npc := 187) rfl dX1_advance_186 rfl ?_
        refine aw_if_eq (npc := 190) (tgt := 202) dX1_advance_187 rfl (by decide) (fun hc => absurd hc (by decide)) (fun _ => ?_)
        refine aw_aload_n (npc := 191) rfl dX1_advance_190 rfl ?_
        refine aw_get (npc := 194) dX1_advance_191 rfl kf_X1_25 Rd2.1 rfl ?_
        refine aw_top (y := nI (sk L tp ρ.1.2.2)) (p23) ?_
        refine aw_iload_n (npc := 195) rfl dX1_advance_194 rfl ?_
        refine aw_icmp_ne (npc := 198) (tgt := 202) dX1_advance_195 rfl (by decide) (fun hc8 => ?_) (fun hc8 => ?_)
        · have hc8N : ¬ (sk L tp ρ.1.2.2) = ρ.1.2.2 := fun z9q => hc8 ((nI_eq (a := (sk L tp ρ.1.2.2)) (b := ρ.1.2.2) (by omega) (by omega)).mpr z9q)
          refine aw_iconst (npc := 203) (v := 0) (by decide) dX1_advance_202 rfl ?_
          refine aw_istore_n (npc := 204) (L' := [some (.ref 39), some (.int (nI ρ.1.2.2)), some (.int 1), some (.int 0)]) dX1_advance_203 rfl (by decide) rfl rfl ?_
          refine aw_iload_n (npc := 205) rfl dX1_advance_204 rfl ?_
          refine aw_if_ne (npc := 208) (tgt := 229) dX1_advance_205 rfl (by decide) (fun hc => absurd (by decide) hc) (fun _ => ?_)
          refine aw_aload_n (npc := 209) rfl dX1_advance_208 rfl ?_
          refine aw_get (npc := 212) dX1_advance_209 rfl kf_X1_22 Rd2.1 rfl ?_
          refine aw_top (y := nI (so (tp (sk L tp ρ.1.2.2)))) (p22) ?_
          refine aw_iconst (npc := 213) (v := 2) (by decide) dX1_advance_212 rfl ?_
          refine aw_icmp_ne (npc := 216) (tgt := 234) dX1_advance_213 rfl (by decide) (fun hc9 => ?_) (fun hc9 => ?_)
          · have hc9N : ¬ (so (tp (sk L tp ρ.1.2.2))) = 2 := fun z9q => hc9 ((nI_eq (a := (so (tp (sk L tp ρ.1.2.2)))) (b := 2) (by omega) (by omega)).mpr z9q)
            refine aw_vret rfl dX1_advance_234 ?_
            have ea : adv L tp ρ.1 = (so (tp (sk L tp ρ.1.2.2)), sk L tp ρ.1.2.2, rn L tp (so (tp (sk L tp ρ.1.2.2))) (sk L tp ρ.1.2.2 + 1)) := by
              unfold adv nx
              rw [hwd, if_neg (show ¬ L ≤ sk L tp ρ.1.2.2 by omega), if_neg hc7N]
              exact if_neg (fun z => z.elim (fun z => hc8N z.2) (fun y => hc9N y.1))
            exact hq _ ⟨_, _, Rd2, ((p1).trans (show nI (rn L tp (so (tp (sk L tp ρ.1.2.2))) (sk L tp ρ.1.2.2 + 1)) = nI (adv L tp ρ.1).2.2 by rw [ea])), ((p22).trans (show nI (so (tp (sk L tp ρ.1.2.2))) = nI (adv L tp ρ.1).1 by rw [ea])), ((p23).trans (show nI (sk L tp ρ.1.2.2) = nI (adv L tp ρ.1).2.1 by rw [ea])), (((p2 4 (by decide)).trans ((pk_un (by decide)).trans ((pk_un (by decide)).trans ((pk_un (by decide)).trans (q2 4 (by decide)))))).trans m4), (((p2 5 (by decide)).trans ((pk_un (by decide)).trans ((pk_un (by decide)).trans ((pk_un (by decide)).trans (q2 5 (by decide)))))).trans m5), (((p2 7 (by decide)).trans ((pk_un (by decide)).trans ((pk_un (by decide)).trans ((pk_un (by decide)).trans (q2 7 (by decide)))))).trans m7), (((p2 8 (by decide)).trans ((pk_un (by decide)).trans ((pk_un (by decide)).trans ((pk_un (by decide)).trans (q2 8 (by decide)))))).trans m8), (((p2 9 (by decide)).trans ((pk_un (by decide)).trans ((pk_un (by decide)).trans ((pk_un (by decide)).trans (q2 9 (by decide)))))).trans m9), (((p2 10 (by decide)).trans ((pk_un (by decide)).trans ((pk_un (by decide)).trans ((pk_un (by decide)).trans (q2 10 (by decide)))))).trans m10), mc⟩ (am_fpT f2 (am_fpU (show ¬ (39 < 39 ∨ 43 ≤ 39) by omega) (am_fpU (show ¬ (39 < 39 ∨ 43 ≤ 39) by omega) (am_fpU (show ¬ (39 < 39 ∨ 43 ≤ 39) by omega) f1))))
          · have hc9N := (nI_eq (a := (so (tp (sk L tp ρ.1.2.2)))) (b := 2) (by omega) (by omega)).mp hc9
            refine aw_aload_n (npc := 217) rfl dX1_advance_216 rfl ?_
            refine aw_get (npc := 220) dX1_advance_217 rfl kf_X1_18 Rd2.1 rfl ?_
            refine aw_top (y := nI (rn L tp (so (tp (sk L tp ρ.1.2.2))) (sk L tp ρ.1.2.2 + 1))) (p1) ?_
            refine aw_aload_n (npc := 221) rfl dX1_advance_220 rfl ?_
            refine aw_get (npc := 224) dX1_advance_221 rfl kf_X1_25 Rd2.1 rfl ?_
            refine aw_top (y := nI (sk L tp ρ.1.2.2)) (p23) ?_
            refine aw_isubV (npc := 225) (v := nI ((rn L tp (so (tp (sk L tp ρ.1.2.2))) (sk L tp ρ.1.2.2 + 1)) - (sk L tp ρ.1.2.2))) dX1_advance_224 rfl (pk_sub (by omega)) ?_
            refine aw_iconst (npc := 226) (v := 4) (by decide) dX1_advance_225 rfl ?_
            refine aw_icmp_le (npc := 229) (tgt := 234) dX1_advance_226 rfl (by decide) (fun hc10 => ?_) (fun hc10 => ?_)
            · have hc10N := (nI_leI (a := ((rn L tp (so (tp (sk L tp ρ.1.2.2))) (sk L tp ρ.1.2.2 + 1)) - (sk L tp ρ.1.2.2))) (b := 4) (by omega) (by omega)).mp hc10
              refine aw_vret rfl dX1_advance_234 ?_
              have ea : adv L tp ρ.1 = (so (tp (sk L tp ρ.1.2.2)), sk L tp ρ.1.2.2, rn L tp (so (tp (sk L tp ρ.1.2.2))) (sk L tp ρ.1.2.2 + 1)) := by
                unfold adv nx
                rw [hwd, if_neg (show ¬ L ≤ sk L tp ρ.1.2.2 by omega), if_neg hc7N]
                exact if_neg (fun z => z.elim (fun z => hc8N z.2) (fun y => by have z9 := hc10N; have y9 := y.2; omega))
              exact hq _ ⟨_, _, Rd2, ((p1).trans (show nI (rn L tp (so (tp (sk L tp ρ.1.2.2))) (sk L tp ρ.1.2.2 + 1)) = nI (adv L tp ρ.1).2.2 by rw [ea])), ((p22).trans (show nI (so (tp (sk L tp ρ.1.2.2))) = nI (adv L tp ρ.1).1 by rw [ea])), ((p23).trans (show nI (sk L tp ρ.1.2.2) = nI (adv L tp ρ.1).2.1 by rw [ea])), (((p2 4 (by decide)).trans ((pk_un (by decide)).trans ((pk_un (by decide)).trans ((pk_un (by decide)).trans (q2 4 (by decide)))))).trans m4), (((p2 5 (by decide)).trans ((pk_un (by decide)).trans ((pk_un (by decide)).trans ((pk_un (by decide)).trans (q2 5 (by decide)))))).trans m5), (((p2 7 (by decide)).trans ((pk_un (by decide)).trans ((pk_un (by decide)).trans ((pk_un (by decide)).trans (q2 7 (by decide)))))).trans m7), (((p2 8 (by decide)).trans ((pk_un (by decide)).trans ((pk_un (by decide)).trans ((pk_un (by decide)).trans (q2 8 (by decide)))))).trans m8), (((p2 9 (by decide)).trans ((pk_un (by decide)).trans ((pk_un (by decide)).trans ((pk_un (by decide)).trans (q2 9 (by decide)))))).trans m9), (((p2 10 (by decide)).trans ((pk_un (by decide)).trans ((pk_un (by decide)).trans ((pk_un (by decide)).trans (q2 10 (by decide)))))).trans m10), mc⟩ (am_fpT f2 (am_fpU (show ¬ (39 < 39 ∨ 43 ≤ 39) by omega) (am_fpU (show ¬ (39 < 39 ∨ 43 ≤ 39) by omega) (am_fpU (show ¬ (39 < 39 ∨ 43 ≤ 39) by omega) f1))))
            · have hc10N : ¬ ((rn L tp (so (tp (sk L tp ρ.1.2.2))) (sk L tp ρ.1.2.2 + 1)) - (sk L tp ρ.1.2.2)) ≤ 4 := fun z9q => hc10 ((nI_leI (a := ((rn L tp (so (tp (sk L tp ρ.1.2.2))) (sk L tp ρ.1.2.2 + 1)) - (sk L tp ρ.1.2.2))) (b := 4) (by omega) (by omega)).mpr z9q)
              refine aw_aload_n (npc := 230) rfl dX1_advance_229 rfl ?_
              refine aw_iconst (npc := 231) (v := 5) (by decide) dX1_advance_230 rfl ?_
              refine aw_put (npc := 234) dX1_advance_231 rfl kf_X1_22 Rd2.1 (Nat.le_of_ble_eq_true rfl) (am_ok_int _) rfl ?_
              have Rd11 := rd_r2 (v := 5) Rd2
              refine aw_vret rfl dX1_advance_234 ?_
              have ea : adv L tp ρ.1 = (5, sk L tp ρ.1.2.2, rn L tp (so (tp (sk L tp ρ.1.2.2))) (sk L tp ρ.1.2.2 + 1)) := by
                unfold adv nx
                rw [hwd, if_neg (show ¬ L ≤ sk L tp ρ.1.2.2 by omega), if_neg hc7N]
                exact if_pos (Or.inr ⟨hc9N, by have z9 := hc10N; omega⟩)
              exact hq _ ⟨_, _, Rd11, ((((pk_un (by omega))).trans p1).trans (show nI (rn L tp (so (tp (sk L tp ρ.1.2.2))) (sk L tp ρ.1.2.2 + 1)) = nI (adv L tp ρ.1).2.2 by rw [ea])), ((pk_us).trans (show nI (5) = nI (adv L tp ρ.1).1 by rw [ea])), ((((pk_un (by omega))).trans p23).trans (show nI (sk L tp ρ.1.2.2) = nI (adv L tp ρ.1).2.1 by rw [ea])), (((pk_un (by decide)).trans ((p2 4 (by decide)).trans ((pk_un (by decide)).trans ((pk_un (by decide)).trans ((pk_un (by decide)).trans (q2 4 (by decide))))))).trans m4), (((pk_un (by decide)).trans ((p2 5 (by decide)).trans ((pk_un (by decide)).trans ((pk_un (by decide)).trans ((pk_un (by decide)).trans (q2 5 (by decide))))))).trans m5), (((pk_un (by decide)).trans ((p2 7 (by decide)).trans ((pk_un (by decide)).trans ((pk_un (by decide)).trans ((pk_un (by decide)).trans (q2 7 (by decide))))))).trans m7), (((pk_un (by decide)).trans ((p2 8 (by decide)).trans ((pk_un (by decide)).trans ((pk_un (by decide)).trans ((pk_un (by decide)).trans (q2 8 (by decide))))))).trans m8), (((pk_un (by decide)).trans ((p2 9 (by decide)).trans ((pk_un (by decide)).trans ((pk_un (by decide)).trans ((pk_un (by decide)).trans (q2 9 (by decide))))))).trans m9), (((pk_un (by decide)).trans ((p2 10 (by decide)).trans ((pk_un (by decide)).trans ((pk_un (by decide)).trans ((pk_un (by decide)).trans (q2 10 (by decide))))))).trans m10), mc⟩ (am_fpU (show ¬ (39 < 39 ∨ 43 ≤ 39) by omega) (am_fpT f2 (am_fpU (show ¬ (39 < 39 ∨ 43 ≤ 39) by omega) (am_fpU (show ¬ (39 < 39 ∨ 43 ≤ 39) by omega) (am_fpU (show ¬ (39 < 39 ∨ 43 ≤ 39) by omega) f1)))))
        · have hc8N := (nI_eq (a := (sk L tp ρ.1.2.2)) (b := ρ.1.2.2) (by omega) (by omega)).mp hc8
          refine aw_iconst (npc := 199) (v := 1) (by decide) dX1_advance_198 rfl ?_
          refine aw_goto (npc := 203) dX1_advance_199 (by decide) ?_
          refine aw_istore_n (npc := 204) (L' := [some (.ref 39), some (.int (nI ρ.1.2.2)), some (.int 1), some (.int 1)]) dX1_advance_203 rfl (by decide) rfl rfl ?_
          refine aw_iload_n (npc := 205) rfl dX1_advance_204 rfl ?_
          refine aw_if_ne (npc := 208) (tgt := 229) dX1_advance_205 rfl (by decide) (fun _ => ?_) (fun hc => absurd hc (by decide))
          refine aw_aload_n (npc := 230) rfl dX1_advance_229 rfl ?_
          refine aw_iconst (npc := 231) (v := 5) (by decide) dX1_advance_230 rfl ?_
          refine aw_put (npc := 234) dX1_advance_231 rfl kf_X1_22 Rd2.1 (Nat.le_of_ble_eq_true rfl) (am_ok_int _) rfl ?_
          have Rd12 := rd_r2 (v := 5) Rd2
          refine aw_vret rfl dX1_advance_234 ?_
          have ea : adv L tp ρ.1 = (5, sk L tp ρ.1.2.2, rn L tp (so (tp (sk L tp ρ.1.2.2))) (sk L tp ρ.1.2.2 + 1)) := by
            unfold adv nx
            rw [hwd, if_neg (show ¬ L ≤ sk L tp ρ.1.2.2 by omega), if_neg hc7N]
            exact if_pos (Or.inl ⟨rfl, hc8N⟩)
          exact hq _ ⟨_, _, Rd12, ((((pk_un (by omega))).trans p1).trans (show nI (rn L tp (so (tp (sk L tp ρ.1.2.2))) (sk L tp ρ.1.2.2 + 1)) = nI (adv L tp ρ.1).2.2 by rw [ea])), ((pk_us).trans (show nI (5) = nI (adv L tp ρ.1).1 by rw [ea])), ((((pk_un (by omega))).trans p23).trans (show nI (sk L tp ρ.1.2.2) = nI (adv L tp ρ.1).2.1 by rw [ea])), (((pk_un (by decide)).trans ((p2 4 (by decide)).trans ((pk_un (by decide)).trans ((pk_un (by decide)).trans ((pk_un (by decide)).trans (q2 4 (by decide))))))).trans m4), (((pk_un (by decide)).trans ((p2 5 (by decide)).trans ((pk_un (by decide)).trans ((pk_un (by decide)).trans ((pk_un (by decide)).trans (q2 5 (by decide))))))).trans m5), (((pk_un (by decide)).trans ((p2 7 (by decide)).trans ((pk_un (by decide)).trans ((pk_un (by decide)).trans ((pk_un (by decide)).trans (q2 7 (by decide))))))).trans m7), (((pk_un (by decide)).trans ((p2 8 (by decide)).trans ((pk_un (by decide)).trans ((pk_un (by decide)).trans ((pk_un (by decide)).trans (q2 8 (by decide))))))).trans m8), (((pk_un (by decide)).trans ((p2 9 (by decide)).trans ((pk_un (by decide)).trans ((pk_un (by decide)).trans ((pk_un (by decide)).trans (q2 9 (by decide))))))).trans m9), (((pk_un (by decide)).trans ((p2 10 (by decide)).trans ((pk_un (by decide)).trans ((pk_un (by decide)).trans ((pk_un (by decide)).trans (q2 10 (by decide))))))).trans m10), mc⟩ (am_fpU (show ¬ (39 < 39 ∨ 43 ≤ 39) by omega) (am_fpT f2 (am_fpU (show ¬ (39 < 39 ∨ 43 ≤ 39) by omega) (am_fpU (show ¬ (39 < 39 ∨ 43 ≤ 39) by omega) (am_fpU (show ¬ (39 < 39 ∨ 43 ≤ 39) by omega) f1)))))
      · have hc7N := (nI_eq (a := (so (tp (sk L tp ρ.1.2.2)))) (b := 3) (by omega) (by omega)).mp hc7
        refine aw_vret rfl dX1_advance_136 ?_
        have ea : adv L tp ρ.1 = (3, sk L tp ρ.1.2.2, sk L tp ρ.1.2.2 + 1) := (if_neg (by omega)).trans (if_pos hc7N)
        exact hq _ ⟨_, _, Rd6, ((pk_us).trans (show nI (sk L tp ρ.1.2.2 + 1) = nI (adv L tp ρ.1).2.2 by rw [ea])), ((((pk_un (by omega))).trans pk_us).trans (show nI (so (tp (sk L tp ρ.1.2.2))) = nI (adv L tp ρ.1).1 by rw [ea]; exact congrArg nI hc7N)), (((((pk_un (by omega))).trans (pk_un (by omega))).trans pk_us).trans (show nI (sk L tp ρ.1.2.2) = nI (adv L tp ρ.1).2.1 by rw [ea])), (((pk_un (by decide)).trans ((pk_un (by decide)).trans ((pk_un (by decide)).trans (q2 4 (by decide))))).trans m4), (((pk_un (by decide)).trans ((pk_un (by decide)).trans ((pk_un (by decide)).trans (q2 5 (by decide))))).trans m5), (((pk_un (by decide)).trans ((pk_un (by decide)).trans ((pk_un (by decide)).trans (q2 7 (by decide))))).trans m7), (((pk_un (by decide)).trans ((pk_un (by decide)).trans ((pk_un (by decide)).trans (q2 8 (by decide))))).trans m8), (((pk_un (by decide)).trans ((pk_un (by decide)).trans ((pk_un (by decide)).trans (q2 9 (by decide))))).trans m9), (((pk_un (by decide)).trans ((pk_un (by decide)).trans ((pk_un (by decide)).trans (q2 10 (by decide))))).trans m10), mc⟩ (am_fpU (show ¬ (39 < 39 ∨ 43 ≤ 39) by omega) (am_fpU (show ¬ (39 < 39 ∨ 43 ≤ 39) by omega) (am_fpU (show ¬ (39 < 39 ∨ 43 ≤ 39) by omega) f1)))
    · have hc3N : ¬ (sk L tp ρ.1.2.2) < L := fun z9q => hc3 ((nI_ltI (a := (sk L tp ρ.1.2.2)) (b := L) (by omega) (by omega)).mpr z9q)
      refine aw_aload_n (npc := 94) rfl dX1_advance_93 rfl ?_
      refine aw_iconst (npc := 95) (v := 0) (by decide) dX1_advance_94 rfl ?_
      refine aw_put (npc := 98) dX1_advance_95 rfl kf_X1_22 Rd2.1 (Nat.le_of_ble_eq_true rfl) (am_ok_int _) rfl ?_
      have Rd13 := rd_r2 (v := 0) Rd2
      refine aw_vret rfl dX1_advance_98 ?_
      have ea : adv L tp ρ.1 = (0, sk L tp ρ.1.2.2, sk L tp ρ.1.2.2) := if_pos (by omega)
      exact hq _ ⟨_, _, Rd13, (((((pk_un (by omega))).trans (pk_un (by omega))).trans q1).trans (show nI (sk L tp ρ.1.2.2) = nI (adv L tp ρ.1).2.2 by rw [ea])), ((pk_us).trans (show nI (0) = nI (adv L tp ρ.1).1 by rw [ea])), ((((pk_un (by omega))).trans pk_us).trans (show nI (sk L tp ρ.1.2.2) = nI (adv L tp ρ.1).2.1 by rw [ea])), (((pk_un (by decide)).trans ((pk_un (by decide)).trans (q2 4 (by decide)))).trans m4), (((pk_un (by decide)).trans ((pk_un (by decide)).trans (q2 5 (by decide)))).trans m5), (((pk_un (by decide)).trans ((pk_un (by decide)).trans (q2 7 (by decide)))).trans m7), (((pk_un (by decide)).trans ((pk_un (by decide)).trans (q2 8 (by decide)))).trans m8), (((pk_un (by decide)).trans ((pk_un (by decide)).trans (q2 9 (by decide)))).trans m9), (((pk_un (by decide)).trans ((pk_un (by decide)).trans (q2 10 (by decide)))).trans m10), mc⟩ (am_fpU (show ¬ (39 < 39 ∨ 43 ≤ 39) by omega) (am_fpU (show ¬ (39 < 39 ∨ 43 ≤ 39) by omega) f1))
  · have hc1N : ¬ ρ.1.1 = 1 := fun z9q => hc1 ((nI_eq (a := ρ.1.1) (b := 1) (by omega) (by omega)).mpr z9q)
    refine aw_aload_n (npc := 14) rfl dX1_advance_13 rfl ?_
    refine aw_get (npc := 17) dX1_advance_14 rfl kf_X1_22 Rd.1 rfl ?_
    refine aw_top (y := nI ρ.1.1) (m2) ?_
    refine aw_iconst (npc := 18) (v := 2) (by decide) dX1_advance_17 rfl ?_
    refine aw_icmp_ne (npc := 21) (tgt := 25) dX1_advance_18 rfl (by decide) (fun hc14 => ?_) (fun hc14 => ?_)
    · have hc14N : ¬ ρ.1.1 = 2 := fun z9q => hc14 ((nI_eq (a := ρ.1.1) (b := 2) (by omega) (by omega)).mpr z9q)
      refine aw_iconst (npc := 26) (v := 0) (by decide) dX1_advance_25 rfl ?_
      refine aw_istore_n (npc := 27) (L' := [some (.ref 39), some (.int (nI ρ.1.2.2)), some (.int 0), none]) dX1_advance_26 rfl (by decide) rfl rfl ?_
      have hwd : wd ρ.1 = false := decide_eq_false (fun z => z.elim hc1N hc14N)
      refine r_bl w96 (L - ρ.1.2.2) ρ.1.2.2 (by omega) _ _ Rd m1 (fun r1 h1 q1 q2 Rd1 f1 => ?_)
      have hsk := skB_p (tp := tp) (L - ρ.1.2.2) ρ.1.2.2
      have hsk1 : ρ.1.2.2 ≤ sk L tp ρ.1.2.2 := hsk.1
      have hsk2 : sk L tp ρ.1.2.2 ≤ L := by have z := hsk.2.1; show skB tp (L - ρ.1.2.2) ρ.1.2.2 ≤ L; omega
      refine aw_aload_n (npc := 72) rfl dX1_advance_71 rfl ?_
      refine aw_aload_n (npc := 73) rfl dX1_advance_72 rfl ?_
      refine aw_get (npc := 76) dX1_advance_73 rfl kf_X1_18 Rd1.1 rfl ?_
      refine aw_top (y := nI (sk L tp ρ.1.2.2)) (q1) ?_
      refine aw_put (npc := 79) dX1_advance_76 rfl kf_X1_25 Rd1.1 (Nat.le_of_ble_eq_true rfl) (am_ok_int _) rfl ?_
      have Rd15 := rd_r3 (v := nI (sk L tp ρ.1.2.2)) Rd1
      refine aw_aload_n (npc := 80) rfl dX1_advance_79 rfl ?_
      refine aw_get (npc := 83) dX1_advance_80 rfl kf_X1_18 Rd15.1 rfl ?_
      refine aw_top (y := r1 1) ((pk_un (by omega))) ?_
      refine aw_top (y := nI (sk L tp ρ.1.2.2)) (q1) ?_
      refine aw_aload_n (npc := 84) rfl dX1_advance_83 rfl ?_
      refine aw_get (npc := 87) dX1_advance_84 rfl kf_X1_12 Rd15.1 rfl ?_
      refine aw_get (npc := 90) dX1_advance_87 rfl kf_X1_73 Rd15.2.1 rfl ?_
      refine aw_icmp_lt (npc := 93) (tgt := 99) dX1_advance_90 rfl (by decide) (fun hc16 => ?_) (fun hc16 => ?_)
      · have hc16N := (nI_ltI (a := (sk L tp ρ.1.2.2)) (b := L) (by omega) (by omega)).mp hc16
        refine aw_aload_n (npc := 100) rfl dX1_advance_99 rfl ?_
        refine aw_aload_n (npc := 101) rfl dX1_advance_100 rfl ?_
        refine aw_get (npc := 104) dX1_advance_101 rfl kf_X1_12 Rd15.1 rfl ?_
        refine aw_get (npc := 107) dX1_advance_104 rfl kf_X1_76 Rd15.2.1 rfl ?_
        refine aw_aload_n (npc := 108) rfl dX1_advance_107 rfl ?_
        refine aw_get (npc := 111) dX1_advance_108 rfl kf_X1_18 Rd15.1 rfl ?_
        refine aw_top (y := r1 1) ((pk_un (by omega))) ?_
        refine aw_top (y := nI (sk L tp ρ.1.2.2)) (q1) ?_
        refine aw_iald (npc := 112) (x := tp (sk L tp ρ.1.2.2)) (j := (sk L tp ρ.1.2.2)) dX1_advance_111 rfl Rd15.2.2.1 (am_ix_nI (by omega)) (tl_at (by omega)) ?_
        refine aw_callS (npc := 115) (N := mX1_sortOf) (mc := 0) (ms := 0) (A := [.int (tp (sk L tp ρ.1.2.2))]) (S := [.ref 39]) (L0 := [some (.int (tp (sk L tp ρ.1.2.2)))]) dX1_advance_112 rfl km_X1_sortOf kk_X1_79 rfl ⟨rfl, by decide⟩ rfl (Nat.le_of_ble_eq_true rfl) (Nat.zero_add _) (Nat.zero_add _) rfl ?_
        refine r_sort ?_
        have hso17 := so_le (tp (sk L tp ρ.1.2.2))
        refine aw_re (S' := [.int (nI (so (tp (sk L tp ρ.1.2.2)))), .ref 39]) rfl ?_
        refine aw_put (npc := 118) dX1_advance_115 rfl kf_X1_22 Rd15.1 (Nat.le_of_ble_eq_true rfl) (am_ok_int _) rfl ?_
        have Rd18 := rd_r2 (v := nI (so (tp (sk L tp ρ.1.2.2)))) Rd15
        refine aw_aload_n (npc := 119) rfl dX1_advance_118 rfl ?_
        refine aw_dup (npc := 120) rfl dX1_advance_119 rfl ?_
        refine aw_get (npc := 123) dX1_advance_120 rfl kf_X1_18 Rd18.1 rfl ?_
        refine aw_top (y := r1 1) (((pk_un (by omega))).trans (pk_un (by omega))) ?_
        refine aw_top (y := nI (sk L tp ρ.1.2.2)) (q1) ?_
        refine aw_iconst (npc := 124) (v := 1) (by decide) dX1_advance_123 rfl ?_
        refine aw_iaddV (npc := 125) (v := nI ((sk L tp ρ.1.2.2) + 1)) dX1_advance_124 rfl (nI_add _ 1) ?_
        refine aw_put (npc := 128) dX1_advance_125 rfl kf_X1_18 Rd18.1 (Nat.le_of_ble_eq_true rfl) (am_ok_int _) rfl ?_
        have Rd19 := rd_r1 (v := nI ((sk L tp ρ.1.2.2) + 1)) Rd18
        refine aw_aload_n (npc := 129) rfl dX1_advance_128 rfl ?_
        refine aw_get (npc := 132) dX1_advance_129 rfl kf_X1_22 Rd19.1 rfl ?_
        refine aw_top (y := nI (so (tp (sk L tp ρ.1.2.2)))) (((pk_un (by omega))).trans pk_us) ?_
        refine aw_iconst (npc := 133) (v := 3) (by decide) dX1_advance_132 rfl ?_
        refine aw_icmp_ne (npc := 136) (tgt := 137) dX1_advance_133 rfl (by decide) (fun hc20 => ?_) (fun hc20 => ?_)
        · have hc20N : ¬ (so (tp (sk L tp ρ.1.2.2))) = 3 := fun z9q => hc20 ((nI_eq (a := (so (tp (sk L tp ρ.1.2.2)))) (b := 3) (by omega) (by omega)).mpr z9q)
          have hso2 : so (tp (sk L tp ρ.1.2.2)) ≤ 4 := so_le _
          refine r_wl (t := so (tp (sk L tp ρ.1.2.2))) w96 (by omega) (L - (sk L tp ρ.1.2.2 + 1)) (sk L tp ρ.1.2.2 + 1) (by omega) _ _ Rd19 pk_us (((pk_un (by decide)).trans pk_us)) (fun r2 h2 p1 p2 Rd2 f2 => ?_)
          have hrn := rnB_p (tp := tp) (t := so (tp (sk L tp ρ.1.2.2))) (L - (sk L tp ρ.1.2.2 + 1)) (sk L tp ρ.1.2.2 + 1)
          have hrn1 : sk L tp ρ.1.2.2 + 1 ≤ rn L tp (so (tp (sk L tp ρ.1.2.2))) (sk L tp ρ.1.2.2 + 1) := hrn.1
          have hrn2 : rn L tp (so (tp (sk L tp ρ.1.2.2))) (sk L tp ρ.1.2.2 + 1) ≤ L := by have z := hrn.2.1; show rnB tp _ (L - (sk L tp ρ.1.2.2 + 1)) (sk L tp ρ.1.2.2 + 1) ≤ L; omega
          have p22 : r2 2 = nI (so (tp (sk L tp ρ.1.2.2))) := (p2 2 (by decide)).trans ((pk_un (by decide)).trans pk_us)
          have p23 : r2 3 = nI (sk L tp ρ.1.2.2) := (p2 3 (by decide)).trans ((pk_un (by decide)).trans ((pk_un (by decide)).trans pk_us))
          refine aw_iload_n (npc := 187) rfl dX1_advance_186 rfl ?_
          refine aw_if_eq (npc := 190) (tgt := 202) dX1_advance_187 rfl (by decide) (fun _ => ?_) (fun hc => absurd (by decide) hc)
          refine aw_iconst (npc := 203) (v := 0) (by decide) dX1_advance_202 rfl ?_
          refine aw_istore_n (npc := 204) (L' := [some (.ref 39), some (.int (nI ρ.1.2.2)), some (.int 0), some (.int 0)]) dX1_advance_203 rfl (by decide) rfl rfl ?_
          refine aw_iload_n (npc := 205) rfl dX1_advance_204 rfl ?_
          refine aw_if_ne (npc := 208) (tgt := 229) dX1_advance_205 rfl (by decide) (fun hc => absurd (by decide) hc) (fun _ => ?_)
          refine aw_aload_n (npc := 209) rfl dX1_advance_208 rfl ?_
          refine aw_get (npc := 212) dX1_advance_209 rfl kf_X1_22 Rd2.1 rfl ?_
          refine aw_top (y := nI (so (tp (sk L tp ρ.1.2.2)))) (p22) ?_
          refine aw_iconst (npc := 213) (v := 2) (by decide) dX1_advance_212 rfl ?_
          refine aw_icmp_ne (npc := 216) (tgt := 234) dX1_advance_213 rfl (by decide) (fun hc21 => ?_) (fun hc21 => ?_)
          · have hc21N : ¬ (so (tp (sk L tp ρ.1.2.2))) = 2 := fun z9q => hc21 ((nI_eq (a := (so (tp (sk L tp ρ.1.2.2)))) (b := 2) (by omega) (by omega)).mpr z9q)
            refine aw_vret rfl dX1_advance_234 ?_
            have ea : adv L tp ρ.1 = (so (tp (sk L tp ρ.1.2.2)), sk L tp ρ.1.2.2, rn L tp (so (tp (sk L tp ρ.1.2.2))) (sk L tp ρ.1.2.2 + 1)) := by
              unfold adv nx
              rw [hwd, if_neg (show ¬ L ≤ sk L tp ρ.1.2.2 by omega), if_neg hc20N]
              exact if_neg (fun z => z.elim (fun z => absurd z.1 (by decide)) (fun y => hc21N y.1))
            exact hq _ ⟨_, _, Rd2, ((p1).trans (show nI (rn L tp (so (tp (sk L tp ρ.1.2.2))) (sk L tp ρ.1.2.2 + 1)) = nI (adv L tp ρ.1).2.2 by rw [ea])), ((p22).trans (show nI (so (tp (sk L tp ρ.1.2.2))) = nI (adv L tp ρ.1).1 by rw [ea])), ((p23).trans (show nI (sk L tp ρ.1.2.2) = nI (adv L tp ρ.1).2.1 by rw [ea])), (((p2 4 (by decide)).trans ((pk_un (by decide)).trans ((pk_un (by decide)).trans ((pk_un (by decide)).trans (q2 4 (by decide)))))).trans m4), (((p2 5 (by decide)).trans ((pk_un (by decide)).trans ((pk_un (by decide)).trans ((pk_un (by decide)).trans (q2 5 (by decide)))))).trans m5), (((p2 7 (by decide)).trans ((pk_un (by decide)).trans ((pk_un (by decide)).trans ((pk_un (by decide)).trans (q2 7 (by decide)))))).trans m7), (((p2 8 (by decide)).trans ((pk_un (by decide)).trans ((pk_un (by decide)).trans ((pk_un (by decide)).trans (q2 8 (by decide)))))).trans m8), (((p2 9 (by decide)).trans ((pk_un (by decide)).trans ((pk_un (by decide)).trans ((pk_un (by decide)).trans (q2 9 (by decide)))))).trans m9), (((p2 10 (by decide)).trans ((pk_un (by decide)).trans ((pk_un (by decide)).trans ((pk_un (by decide)).trans (q2 10 (by decide)))))).trans m10), mc⟩ (am_fpT f2 (am_fpU (show ¬ (39 < 39 ∨ 43 ≤ 39) by omega) (am_fpU (show ¬ (39 < 39 ∨ 43 ≤ 39) by omega) (am_fpU (show ¬ (39 < 39 ∨ 43 ≤ 39) by omega) f1))))
          · have hc21N := (nI_eq (a := (so (tp (sk L tp ρ.1.2.2)))) (b := 2) (by omega) (by omega)).mp hc21
            refine aw_aload_n (npc := 217) rfl dX1_advance_216 rfl ?_
            refine aw_get (npc := 220) dX1_advance_217 rfl kf_X1_18 Rd2.1 rfl ?_
            refine aw_top (y := nI (rn L tp (so (tp (sk L tp ρ.1.2.2))) (sk L tp ρ.1.2.2 + 1))) (p1) ?_
            refine aw_aload_n (npc := 221) rfl dX1_advance_220 rfl ?_
            refine aw_get (npc := 224) dX1_advance_221 rfl kf_X1_25 Rd2.1 rfl ?_
            refine aw_top (y := nI (sk L tp ρ.1.2.2)) (p23) ?_
            refine aw_isubV (npc := 225) (v := nI ((rn L tp (so (tp (sk L tp ρ.1.2.2))) (sk L tp ρ.1.2.2 + 1)) - (sk L tp ρ.1.2.2))) dX1_advance_224 rfl (pk_sub (by omega)) ?_
            refine aw_iconst (npc := 226) (v := 4) (by decide) dX1_advance_225 rfl ?_
            refine aw_icmp_le (npc := 229) (tgt := 234) dX1_advance_226 rfl (by decide) (fun hc22 => ?_) (fun hc22 => ?_)
            · have hc22N := (nI_leI (a := ((rn L tp (so (tp (sk L tp ρ.1.2.2))) (sk L tp ρ.1.2.2 + 1)) - (sk L tp ρ.1.2.2))) (b := 4) (by omega) (by omega)).mp hc22
              refine aw_vret rfl dX1_advance_234 ?_
              have ea : adv L tp ρ.1 = (so (tp (sk L tp ρ.1.2.2)), sk L tp ρ.1.2.2, rn L tp (so (tp (sk L tp ρ.1.2.2))) (sk L tp ρ.1.2.2 + 1)) := by
                unfold adv nx
                rw [hwd, if_neg (show ¬ L ≤ sk L tp ρ.1.2.2 by omega), if_neg hc20N]
                exact if_neg (fun z => z.elim (fun z => absurd z.1 (by decide)) (fun y => by have z9 := hc22N; have y9 := y.2; omega))
              exact hq _ ⟨_, _, Rd2, ((p1).trans (show nI (rn L tp (so (tp (sk L tp ρ.1.2.2))) (sk L tp ρ.1.2.2 + 1)) = nI (adv L tp ρ.1).2.2 by rw [ea])), ((p22).trans (show nI (so (tp (sk L tp ρ.1.2.2))) = nI (adv L tp ρ.1).1 by rw [ea])), ((p23).trans (show nI (sk L tp ρ.1.2.2) = nI (adv L tp ρ.1).2.1 by rw [ea])), (((p2 4 (by decide)).trans ((pk_un (by decide)).trans ((pk_un (by decide)).trans ((pk_un (by decide)).trans (q2 4 (by decide)))))).trans m4), (((p2 5 (by decide)).trans ((pk_un (by decide)).trans ((pk_un (by decide)).trans ((pk_un (by decide)).trans (q2 5 (by decide)))))).trans m5), (((p2 7 (by decide)).trans ((pk_un (by decide)).trans ((pk_un (by decide)).trans ((pk_un (by decide)).trans (q2 7 (by decide)))))).trans m7), (((p2 8 (by decide)).trans ((pk_un (by decide)).trans ((pk_un (by decide)).trans ((pk_un (by decide)).trans (q2 8 (by decide)))))).trans m8), (((p2 9 (by decide)).trans ((pk_un (by decide)).trans ((pk_un (by decide)).trans ((pk_un (by decide)).trans (q2 9 (by decide)))))).trans m9), (((p2 10 (by decide)).trans ((pk_un (by decide)).trans ((pk_un (by decide)).trans ((pk_un (by decide)).trans (q2 10 (by decide)))))).trans m10), mc⟩ (am_fpT f2 (am_fpU (show ¬ (39 < 39 ∨ 43 ≤ 39) by omega) (am_fpU (show ¬ (39 < 39 ∨ 43 ≤ 39) by omega) (am_fpU (show ¬ (39 < 39 ∨ 43 ≤ 39) by omega) f1))))
            · have hc22N : ¬ ((rn L tp (so (tp (sk L tp ρ.1.2.2))) (sk L tp ρ.1.2.2 + 1)) - (sk L tp ρ.1.2.2)) ≤ 4 := fun z9q => hc22 ((nI_leI (a := ((rn L tp (so (tp (sk L tp ρ.1.2.2))) (sk L tp ρ.1.2.2 + 1)) - (sk L tp ρ.1.2.2))) (b := 4) (by omega) (by omega)).mpr z9q)
              refine aw_aload_n (npc := 230) rfl dX1_advance_229 rfl ?_
              refine aw_iconst (npc := 231) (v := 5) (by decide) dX1_advance_230 rfl ?_
              refine aw_put (npc := 234) dX1_advance_231 rfl kf_X1_22 Rd2.1 (Nat.le_of_ble_eq_true rfl) (am_ok_int _) rfl ?_
              have Rd23 := rd_r2 (v := 5) Rd2
              refine aw_vret rfl dX1_advance_234 ?_
              have ea : adv L tp ρ.1 = (5, sk L tp ρ.1.2.2, rn L tp (so (tp (sk L tp ρ.1.2.2))) (sk L tp ρ.1.2.2 + 1)) := by
                unfold adv nx
                rw [hwd, if_neg (show ¬ L ≤ sk L tp ρ.1.2.2 by omega), if_neg hc20N]
                exact if_pos (Or.inr ⟨hc21N, by have z9 := hc22N; omega⟩)
              exact hq _ ⟨_, _, Rd23, ((((pk_un (by omega))).trans p1).trans (show nI (rn L tp (so (tp (sk L tp ρ.1.2.2))) (sk L tp ρ.1.2.2 + 1)) = nI (adv L tp ρ.1).2.2 by rw [ea])), ((pk_us).trans (show nI (5) = nI (adv L tp ρ.1).1 by rw [ea])), ((((pk_un (by omega))).trans p23).trans (show nI (sk L tp ρ.1.2.2) = nI (adv L tp ρ.1).2.1 by rw [ea])), (((pk_un (by decide)).trans ((p2 4 (by decide)).trans ((pk_un (by decide)).trans ((pk_un (by decide)).trans ((pk_un (by decide)).trans (q2 4 (by decide))))))).trans m4), (((pk_un (by decide)).trans ((p2 5 (by decide)).trans ((pk_un (by decide)).trans ((pk_un (by decide)).trans ((pk_un (by decide)).trans (q2 5 (by decide))))))).trans m5), (((pk_un (by decide)).trans ((p2 7 (by decide)).trans ((pk_un (by decide)).trans ((pk_un (by decide)).trans ((pk_un (by decide)).trans (q2 7 (by decide))))))).trans m7), (((pk_un (by decide)).trans ((p2 8 (by decide)).trans ((pk_un (by decide)).trans ((pk_un (by decide)).trans ((pk_un (by decide)).trans (q2 8 (by decide))))))).trans m8), (((pk_un (by decide)).trans ((p2 9 (by decide)).trans ((pk_un (by decide)).trans ((pk_un (by decide)).trans ((pk_un (by decide)).trans (q2 9 (by decide))))))).trans m9), (((pk_un (by decide)).trans ((p2 10 (by decide)).trans ((pk_un (by decide)).trans ((pk_un (by decide)).trans ((pk_un (by decide)).trans (q2 10 (by decide))))))).trans m10), mc⟩ (am_fpU (show ¬ (39 < 39 ∨ 43 ≤ 39) by omega) (am_fpT f2 (am_fpU (show ¬ (39 < 39 ∨ 43 ≤ 39) by omega) (am_fpU (show ¬ (39 < 39 ∨ 43 ≤ 39) by omega) (am_fpU (show ¬ (39 < 39 ∨ 43 ≤ 39) by omega) f1)))))
        · have hc20N := (nI_eq (a := (so (tp (sk L tp ρ.1.2.2)))) (b := 3) (by omega) (by omega)).mp hc20
          refine aw_vret rfl dX1_advance_136 ?_
          have ea : adv L tp ρ.1 = (3, sk L tp ρ.1.2.2, sk L tp ρ.1.2.2 + 1) := (if_neg (by omega)).trans (if_pos hc20N)
          exact hq _ ⟨_, _, Rd19, ((pk_us).trans (show nI (sk L tp ρ.1.2.2 + 1) = nI (adv L tp ρ.1).2.2 by rw [ea])), ((((pk_un (by omega))).trans pk_us).trans (show nI (so (tp (sk L tp ρ.1.2.2))) = nI (adv L tp ρ.1).1 by rw [ea]; exact congrArg nI hc20N)), (((((pk_un (by omega))).trans (pk_un (by omega))).trans pk_us).trans (show nI (sk L tp ρ.1.2.2) = nI (adv L tp ρ.1).2.1 by rw [ea])), (((pk_un (by decide)).trans ((pk_un (by decide)).trans ((pk_un (by decide)).trans (q2 4 (by decide))))).trans m4), (((pk_un (by decide)).trans ((pk_un (by decide)).trans ((pk_un (by decide)).trans (q2 5 (by decide))))).trans m5), (((pk_un (by decide)).trans ((pk_un (by decide)).trans ((pk_un (by decide)).trans (q2 7 (by decide))))).trans m7), (((pk_un (by decide)).trans ((pk_un (by decide)).trans ((pk_un (by decide)).trans (q2 8 (by decide))))).trans m8), (((pk_un (by decide)).trans ((pk_un (by decide)).trans ((pk_un (by decide)).trans (q2 9 (by decide))))).trans m9), (((pk_un (by decide)).trans ((pk_un (by decide)).trans ((pk_un (by decide)).trans (q2 10 (by decide))))).trans m10), mc⟩ (am_fpU (show ¬ (39 < 39 ∨ 43 ≤ 39) by omega) (am_fpU (show ¬ (39 < 39 ∨ 43 ≤ 39) by omega) (am_fpU (show ¬ (39 < 39 ∨ 43 ≤ 39) by omega) f1)))
      · have hc16N : ¬ (sk L tp ρ.1.2.2) < L := fun z9q => hc16 ((nI_ltI (a := (sk L tp ρ.1.2.2)) (b := L) (by omega) (by omega)).mpr z9q)
        refine aw_aload_n (npc := 94) rfl dX1_advance_93 rfl ?_
        refine aw_iconst (npc := 95) (v := 0) (by decide) dX1_advance_94 rfl ?_
        refine aw_put (npc := 98) dX1_advance_95 rfl kf_X1_22 Rd15.1 (Nat.le_of_ble_eq_true rfl) (am_ok_int _) rfl ?_
        have Rd24 := rd_r2 (v := 0) Rd15
        refine aw_vret rfl dX1_advance_98 ?_
        have ea : adv L tp ρ.1 = (0, sk L tp ρ.1.2.2, sk L tp ρ.1.2.2) := if_pos (by omega)
        exact hq _ ⟨_, _, Rd24, (((((pk_un (by omega))).trans (pk_un (by omega))).trans q1).trans (show nI (sk L tp ρ.1.2.2) = nI (adv L tp ρ.1).2.2 by rw [ea])), ((pk_us).trans (show nI (0) = nI (adv L tp ρ.1).1 by rw [ea])), ((((pk_un (by omega))).trans pk_us).trans (show nI (sk L tp ρ.1.2.2) = nI (adv L tp ρ.1).2.1 by rw [ea])), (((pk_un (by decide)).trans ((pk_un (by decide)).trans (q2 4 (by decide)))).trans m4), (((pk_un (by decide)).trans ((pk_un (by decide)).trans (q2 5 (by decide)))).trans m5), (((pk_un (by decide)).trans ((pk_un (by decide)).trans (q2 7 (by decide)))).trans m7), (((pk_un (by decide)).trans ((pk_un (by decide)).trans (q2 8 (by decide)))).trans m8), (((pk_un (by decide)).trans ((pk_un (by decide)).trans (q2 9 (by decide)))).trans m9), (((pk_un (by decide)).trans ((pk_un (by decide)).trans (q2 10 (by decide)))).trans m10), mc⟩ (am_fpU (show ¬ (39 < 39 ∨ 43 ≤ 39) by omega) (am_fpU (show ¬ (39 < 39 ∨ 43 ≤ 39) by omega) f1))
    · have hc14N := (nI_eq (a := ρ.1.1) (b := 2) (by omega) (by omega)).mp hc14
      refine aw_iconst (npc := 22) (v := 1) (by decide) dX1_advance_21 rfl ?_
      refine aw_goto (npc := 26) dX1_advance_22 (by decide) ?_
      refine aw_istore_n (npc := 27) (L' := [some (.ref 39), some (.int (nI ρ.1.2.2)), some (.int 1), none]) dX1_advance_26 rfl (by decide) rfl rfl ?_
      have hwd : wd ρ.1 = true := decide_eq_true (Or.inr hc14N)
      refine r_bl w96 (L - ρ.1.2.2) ρ.1.2.2 (by omega) _ _ Rd m1 (fun r1 h1 q1 q2 Rd1 f1 => ?_)
      have hsk := skB_p (tp := tp) (L - ρ.1.2.2) ρ.1.2.2
      have hsk1 : ρ.1.2.2 ≤ sk L tp ρ.1.2.2 := hsk.1
      have hsk2 : sk L tp ρ.1.2.2 ≤ L := by have z := hsk.2.1; show skB tp (L - ρ.1.2.2) ρ.1.2.2 ≤ L; omega
      refine aw_aload_n (npc := 72) rfl dX1_advance_71 rfl ?_
      refine aw_aload_n (npc := 73) rfl dX1_advance_72 rfl ?_
      refine aw_get (npc := 76) dX1_advance_73 rfl kf_X1_18 Rd1.1 rfl ?_
      refine aw_top (y := nI (sk L tp ρ.1.2.2)) (q1) ?_
      refine aw_put (npc := 79) dX1_advance_76 rfl kf_X1_25 Rd1.1 (Nat.le_of_ble_eq_true rfl) (am_ok_int _) rfl ?_
      have Rd25 := rd_r3 (v := nI (sk L tp ρ.1.2.2)) Rd1
      refine aw_aload_n (npc := 80) rfl dX1_advance_79 rfl ?_
      refine aw_get (npc := 83) dX1_advance_80 rfl kf_X1_18 Rd25.1 rfl ?_
      refine aw_top (y := r1 1) ((pk_un (by omega))) ?_
      refine aw_top (y := nI (sk L tp ρ.1.2.2)) (q1) ?_
      refine aw_aload_n (npc := 84) rfl dX1_advance_83 rfl ?_
      refine aw_get (npc := 87) dX1_advance_84 rfl kf_X1_12 Rd25.1 rfl ?_
      refine aw_get (npc := 90) dX1_advance_87 rfl kf_X1_73 Rd25.2.1 rfl ?_
      refine aw_icmp_lt (npc := 93) (tgt := 99) dX1_advance_90 rfl (by decide) (fun hc26 => ?_) (fun hc26 => ?_)
      · have hc26N := (nI_ltI (a := (sk L tp ρ.1.2.2)) (b := L) (by omega) (by omega)).mp hc26
        refine aw_aload_n (npc := 100) rfl dX1_advance_99 rfl ?_
        refine aw_aload_n (npc := 101) rfl dX1_advance_100 rfl ?_
        refine aw_get (npc := 104) dX1_advance_101 rfl kf_X1_12 Rd25.1 rfl ?_
        refine aw_get (npc := 107) dX1_advance_104 rfl kf_X1_76 Rd25.2.1 rfl ?_
        refine aw_aload_n (npc := 108) rfl dX1_advance_107 rfl ?_
        refine aw_get (npc := 111) dX1_advance_108 rfl kf_X1_18 Rd25.1 rfl ?_
        refine aw_top (y := r1 1) ((pk_un (by omega))) ?_
        refine aw_top (y := nI (sk L tp ρ.1.2.2)) (q1) ?_
        refine aw_iald (npc := 112) (x := tp (sk L tp ρ.1.2.2)) (j := (sk L tp ρ.1.2.2)) dX1_advance_111 rfl Rd25.2.2.1 (am_ix_nI (by omega)) (tl_at (by omega)) ?_
        refine aw_callS (npc := 115) (N := mX1_sortOf) (mc := 0) (ms := 0) (A := [.int (tp (sk L tp ρ.1.2.2))]) (S := [.ref 39]) (L0 := [some (.int (tp (sk L tp ρ.1.2.2)))]) dX1_advance_112 rfl km_X1_sortOf kk_X1_79 rfl ⟨rfl, by decide⟩ rfl (Nat.le_of_ble_eq_true rfl) (Nat.zero_add _) (Nat.zero_add _) rfl ?_
        refine r_sort ?_
        have hso27 := so_le (tp (sk L tp ρ.1.2.2))
        refine aw_re (S' := [.int (nI (so (tp (sk L tp ρ.1.2.2)))), .ref 39]) rfl ?_
        refine aw_put (npc := 118) dX1_advance_115 rfl kf_X1_22 Rd25.1 (Nat.le_of_ble_eq_true rfl) (am_ok_int _) rfl ?_
        have Rd28 := rd_r2 (v := nI (so (tp (sk L tp ρ.1.2.2)))) Rd25
        refine aw_aload_n (npc := 119) rfl dX1_advance_118 rfl ?_
        refine aw_dup (npc := 120) rfl dX1_advance_119 rfl ?_
        refine aw_get (npc := 123) dX1_advance_120 rfl kf_X1_18 Rd28.1 rfl ?_
        refine aw_top (y := r1 1) (((pk_un (by omega))).trans (pk_un (by omega))) ?_
        refine aw_top (y := nI (sk L tp ρ.1.2.2)) (q1) ?_
        refine aw_iconst (npc := 124) (v := 1) (by decide) dX1_advance_123 rfl ?_
        refine aw_iaddV (npc := 125) (v := nI ((sk L tp ρ.1.2.2) + 1)) dX1_advance_124 rfl (nI_add _ 1) ?_
        refine aw_put (npc := 128) dX1_advance_125 rfl kf_X1_18 Rd28.1 (Nat.le_of_ble_eq_true rfl) (am_ok_int _) rfl ?_
        have Rd29 := rd_r1 (v := nI ((sk L tp ρ.1.2.2) + 1)) Rd28
        refine aw_aload_n (npc := 129) rfl dX1_advance_128 rfl ?_
        refine aw_get (npc := 132) dX1_advance_129 rfl kf_X1_22 Rd29.1 rfl ?_
        refine aw_top (y := nI (so (tp (sk L tp ρ.1.2.2)))) (((pk_un (by omega))).trans pk_us) ?_
        refine aw_iconst (npc := 133) (v := 3) (by decide) dX1_advance_132 rfl ?_
        refine aw_icmp_ne (npc := 136) (tgt := 137) dX1_advance_133 rfl (by decide) (fun hc30 => ?_) (fun hc30 => ?_)
        · have hc30N : ¬ (so (tp (sk L tp ρ.1.2.2))) = 3 := fun z9q => hc30 ((nI_eq (a := (so (tp (sk L tp ρ.1.2.2)))) (b := 3) (by omega) (by omega)).mpr z9q)
          have hso2 : so (tp (sk L tp ρ.1.2.2)) ≤ 4 := so_le _
          refine r_wl (t := so (tp (sk L tp ρ.1.2.2))) w96 (by omega) (L - (sk L tp ρ.1.2.2 + 1)) (sk L tp ρ.1.2.2 + 1) (by omega) _ _ Rd29 pk_us (((pk_un (by decide)).trans pk_us)) (fun r2 h2 p1 p2 Rd2 f2 => ?_)
          have hrn := rnB_p (tp := tp) (t := so (tp (sk L tp ρ.1.2.2))) (L - (sk L tp ρ.1.2.2 + 1)) (sk L tp ρ.1.2.2 + 1)
          have hrn1 : sk L tp ρ.1.2.2 + 1 ≤ rn L tp (so (tp (sk L tp ρ.1.2.2))) (sk L tp ρ.1.2.2 + 1) := hrn.1
          have hrn2 : rn L tp (so (tp (sk L tp ρ.1.2.2))) (sk L tp ρ.1.2.2 + 1) ≤ L := by have z := hrn.2.1; show rnB tp _ (L - (sk L tp ρ.1.2.2 + 1)) (sk L tp ρ.1.2.2 + 1) ≤ L; omega
          have p22 : r2 2 = nI (so (tp (sk L tp ρ.1.2.2))) := (p2 2 (by decide)).trans ((pk_un (by decide)).trans pk_us)
          have p23 : r2 3 = nI (sk L tp ρ.1.2.2) := (p2 3 (by decide)).trans ((pk_un (by decide)).trans ((pk_un (by decide)).trans pk_us))
          refine aw_iload_n (npc := 187) rfl dX1_advance_186 rfl ?_
          refine aw_if_eq (npc := 190) (tgt := 202) dX1_advance_187 rfl (by decide) (fun hc => absurd hc (by decide)) (fun _ => ?_)
          refine aw_aload_n (npc := 191) rfl dX1_advance_190 rfl ?_
          refine aw_get (npc := 194) dX1_advance_191 rfl kf_X1_25 Rd2.1 rfl ?_
          refine aw_top (y := nI (sk L tp ρ.1.2.2)) (p23) ?_
          refine aw_iload_n (npc := 195) rfl dX1_advance_194 rfl ?_
          refine aw_icmp_ne (npc := 198) (tgt := 202) dX1_advance_195 rfl (by decide) (fun hc31 => ?_) (fun hc31 => ?_)
          · have hc31N : ¬ (sk L tp ρ.1.2.2) = ρ.1.2.2 := fun z9q => hc31 ((nI_eq (a := (sk L tp ρ.1.2.2)) (b := ρ.1.2.2) (by omega) (by omega)).mpr z9q)
            refine aw_iconst (npc := 203) (v := 0) (by decide) dX1_advance_202 rfl ?_
            refine aw_istore_n (npc := 204) (L' := [some (.ref 39), some (.int (nI ρ.1.2.2)), some (.int 1), some (.int 0)]) dX1_advance_203 rfl (by decide) rfl rfl ?_
            refine aw_iload_n (npc := 205) rfl dX1_advance_204 rfl ?_
            refine aw_if_ne (npc := 208) (tgt := 229) dX1_advance_205 rfl (by decide) (fun hc => absurd (by decide) hc) (fun _ => ?_)
            refine aw_aload_n (npc := 209) rfl dX1_advance_208 rfl ?_
            refine aw_get (npc := 212) dX1_advance_209 rfl kf_X1_22 Rd2.1 rfl ?_
            refine aw_top (y := nI (so (tp (sk L tp ρ.1.2.2)))) (p22) ?_
            refine aw_iconst (npc := 213) (v := 2) (by decide) dX1_advance_212 rfl ?_
            refine aw_icmp_ne (npc := 216) (tgt := 234) dX1_advance_213 rfl (by decide) (fun hc32 => ?_) (fun hc32 => ?_)
            · have hc32N : ¬ (so (tp (sk L tp ρ.1.2.2))) = 2 := fun z9q => hc32 ((nI_eq (a := (so (tp (sk L tp ρ.1.2.2)))) (b := 2) (by omega) (by omega)).mpr z9q)
              refine aw_vret rfl dX1_advance_234 ?_
              have ea : adv L tp ρ.1 = (so (tp (sk L tp ρ.1.2.2)), sk L tp ρ.1.2.2, rn L tp (so (tp (sk L tp ρ.1.2.2))) (sk L tp ρ.1.2.2 + 1)) := by
                unfold adv nx
                rw [hwd, if_neg (show ¬ L ≤ sk L tp ρ.1.2.2 by omega), if_neg hc30N]
                exact if_neg (fun z => z.elim (fun z => hc31N z.2) (fun y => hc32N y.1))
              exact hq _ ⟨_, _, Rd2, ((p1).trans (show nI (rn L tp (so (tp (sk L tp ρ.1.2.2))) (sk L tp ρ.1.2.2 + 1)) = nI (adv L tp ρ.1).2.2 by rw [ea])), ((p22).trans (show nI (so (tp (sk L tp ρ.1.2.2))) = nI (adv L tp ρ.1).1 by rw [ea])), ((p23).trans (show nI (sk L tp ρ.1.2.2) = nI (adv L tp ρ.1).2.1 by rw [ea])), (((p2 4 (by decide)).trans ((pk_un (by decide)).trans ((pk_un (by decide)).trans ((pk_un (by decide)).trans (q2 4 (by decide)))))).trans m4), (((p2 5 (by decide)).trans ((pk_un (by decide)).trans ((pk_un (by decide)).trans ((pk_un (by decide)).trans (q2 5 (by decide)))))).trans m5), (((p2 7 (by decide)).trans ((pk_un (by decide)).trans ((pk_un (by decide)).trans ((pk_un (by decide)).trans (q2 7 (by decide)))))).trans m7), (((p2 8 (by decide)).trans ((pk_un (by decide)).trans ((pk_un (by decide)).trans ((pk_un (by decide)).trans (q2 8 (by decide)))))).trans m8), (((p2 9 (by decide)).trans ((pk_un (by decide)).trans ((pk_un (by decide)).trans ((pk_un (by decide)).trans (q2 9 (by decide)))))).trans m9), (((p2 10 (by decide)).trans ((pk_un (by decide)).trans ((pk_un (by decide)).trans ((pk_un (by decide)).trans (q2 10 (by decide)))))).trans m10), mc⟩ (am_fpT f2 (am_fpU (show ¬ (39 < 39 ∨ 43 ≤ 39) by omega) (am_fpU (show ¬ (39 < 39 ∨ 43 ≤ 39) by omega) (am_fpU (show ¬ (39 < 39 ∨ 43 ≤ 39) by omega) f1))))
            · have hc32N := (nI_eq (a := (so (tp (sk L tp ρ.1.2.2)))) (b := 2) (by omega) (by omega)).mp hc32
              refine aw_aload_n (npc := 217) rfl dX1_advance_216 rfl ?_
              refine aw_get (npc := 220) dX1_advance_217 rfl kf_X1_18 Rd2.1 rfl ?_
              refine aw_top (y := nI (rn L tp (so (tp (sk L tp ρ.1.2.2))) (sk L tp ρ.1.2.2 + 1))) (p1) ?_
              refine aw_aload_n (npc := 221) rfl dX1_advance_220 rfl ?_
              refine aw_get (npc := 224) dX1_advance_221 rfl kf_X1_25 Rd2.1 rfl ?_
              refine aw_top (y := nI (sk L tp ρ.1.2.2)) (p23) ?_
              refine aw_isubV (npc := 225) (v := nI ((rn L tp (so (tp (sk L tp ρ.1.2.2))) (sk L tp ρ.1.2.2 + 1)) - (sk L tp ρ.1.2.2))) dX1_advance_224 rfl (pk_sub (by omega)) ?_
              refine aw_iconst (npc := 226) (v := 4) (by decide) dX1_advance_225 rfl ?_
              refine aw_icmp_le (npc := 229) (tgt := 234) dX1_advance_226 rfl (by decide) (fun hc33 => ?_) (fun hc33 => ?_)
              · have hc33N := (nI_leI (a := ((rn L tp (so (tp (sk L tp ρ.1.2.2))) (sk L tp ρ.1.2.2 + 1)) - (sk L tp ρ.1.2.2))) (b := 4) (by omega) (by omega)).mp hc33
                refine aw_vret rfl dX1_advance_234 ?_
                have ea : adv L tp ρ.1 = (so (tp (sk L tp ρ.1.2.2)), sk L tp ρ.1.2.2, rn L tp (so (tp (sk L tp ρ.1.2.2))) (sk L tp ρ.1.2.2 + 1)) := by
                  unfold adv nx
                  rw [hwd, if_neg (show ¬ L ≤ sk L tp ρ.1.2.2 by omega), if_neg hc30N]
                  exact if_neg (fun z => z.elim (fun z => hc31N z.2) (fun y => by have z9 := hc33N; have y9 := y.2; omega))
                exact hq _ ⟨_, _, Rd2, ((p1).trans (show nI (rn L tp (so (tp (sk L tp ρ.1.2.2))) (sk L tp ρ.1.2.2 + 1)) = nI (adv L tp ρ.1).2.2 by rw [ea])), ((p22).trans (show nI (so (tp (sk L tp ρ.1.2.2))) = nI (adv L tp ρ.1).1 by rw [ea])), ((p23).trans (show nI (sk L tp ρ.1.2.2) = nI (adv L tp ρ.1).2.1 by rw [ea])), (((p2 4 (by decide)).trans ((pk_un (by decide)).trans ((pk_un (by decide)).trans ((pk_un (by decide)).trans (q2 4 (by decide)))))).trans m4), (((p2 5 (by decide)).trans ((pk_un (by decide)).trans ((pk_un (by decide)).trans ((pk_un (by decide)).trans (q2 5 (by decide)))))).trans m5), (((p2 7 (by decide)).trans ((pk_un (by decide)).trans ((pk_un (by decide)).trans ((pk_un (by decide)).trans (q2 7 (by decide)))))).trans m7), (((p2 8 (by decide)).trans ((pk_un (by decide)).trans ((pk_un (by decide)).trans ((pk_un (by decide)).trans (q2 8 (by decide)))))).trans m8), (((p2 9 (by decide)).trans ((pk_un (by decide)).trans ((pk_un (by decide)).trans ((pk_un (by decide)).trans (q2 9 (by decide)))))).trans m9), (((p2 10 (by decide)).trans ((pk_un (by decide)).trans ((pk_un (by decide)).trans ((pk_un (by decide)).trans (q2 10 (by decide)))))).trans m10), mc⟩ (am_fpT f2 (am_fpU (show ¬ (39 < 39 ∨ 43 ≤ 39) by omega) (am_fpU (show ¬ (39 < 39 ∨ 43 ≤ 39) by omega) (am_fpU (show ¬ (39 < 39 ∨ 43 ≤ 39) by omega) f1))))
              · have hc33N : ¬ ((rn L tp (so (tp (sk L tp ρ.1.2.2))) (sk L tp ρ.1.2.2 + 1)) - (sk L tp ρ.1.2.2)) ≤ 4 := fun z9q => hc33 ((nI_leI (a := ((rn L tp (so (tp (sk L tp ρ.1.2.2))) (sk L tp ρ.1.2.2 + 1)) - (sk L tp ρ.1.2.2))) (b := 4) (by omega) (by omega)).mpr z9q)
                refine aw_aload_n (npc := 230) rfl dX1_advance_229 rfl ?_
                refine aw_iconst (npc := 231) (v := 5) (by decide) dX1_advance_230 rfl ?_
                refine aw_put (npc := 234) dX1_advance_231 rfl kf_X1_22 Rd2.1 (Nat.le_of_ble_eq_true rfl) (am_ok_int _) rfl ?_
                have Rd34 := rd_r2 (v := 5) Rd2
                refine aw_vret rfl dX1_advance_234 ?_
                have ea : adv L tp ρ.1 = (5, sk L tp ρ.1.2.2, rn L tp (so (tp (sk L tp ρ.1.2.2))) (sk L tp ρ.1.2.2 + 1)) := by
                  unfold adv nx
                  rw [hwd, if_neg (show ¬ L ≤ sk L tp ρ.1.2.2 by omega), if_neg hc30N]
                  exact if_pos (Or.inr ⟨hc32N, by have z9 := hc33N; omega⟩)
                exact hq _ ⟨_, _, Rd34, ((((pk_un (by omega))).trans p1).trans (show nI (rn L tp (so (tp (sk L tp ρ.1.2.2))) (sk L tp ρ.1.2.2 + 1)) = nI (adv L tp ρ.1).2.2 by rw [ea])), ((pk_us).trans (show nI (5) = nI (adv L tp ρ.1).1 by rw [ea])), ((((pk_un (by omega))).trans p23).trans (show nI (sk L tp ρ.1.2.2) = nI (adv L tp ρ.1).2.1 by rw [ea])), (((pk_un (by decide)).trans ((p2 4 (by decide)).trans ((pk_un (by decide)).trans ((pk_un (by decide)).trans ((pk_un (by decide)).trans (q2 4 (by decide))))))).trans m4), (((pk_un (by decide)).trans ((p2 5 (by decide)).trans ((pk_un (by decide)).trans ((pk_un (by decide)).trans ((pk_un (by decide)).trans (q2 5 (by decide))))))).trans m5), (((pk_un (by decide)).trans ((p2 7 (by decide)).trans ((pk_un (by decide)).trans ((pk_un (by decide)).trans ((pk_un (by decide)).trans (q2 7 (by decide))))))).trans m7), (((pk_un (by decide)).trans ((p2 8 (by decide)).trans ((pk_un (by decide)).trans ((pk_un (by decide)).trans ((pk_un (by decide)).trans (q2 8 (by decide))))))).trans m8), (((pk_un (by decide)).trans ((p2 9 (by decide)).trans ((pk_un (by decide)).trans ((pk_un (by decide)).trans ((pk_un (by decide)).trans (q2 9 (by decide))))))).trans m9), (((pk_un (by decide)).trans ((p2 10 (by decide)).trans ((pk_un (by decide)).trans ((pk_un (by decide)).trans ((pk_un (by decide)).trans (q2 10 (by decide))))))).trans m10), mc⟩ (am_fpU (show ¬ (39 < 39 ∨ 43 ≤ 39) by omega) (am_fpT f2 (am_fpU (show ¬ (39 < 39 ∨ 43 ≤ 39) by omega) (am_fpU (show ¬ (39 < 39 ∨ 43 ≤ 39) by omega) (am_fpU (show ¬ (39 < 39 ∨ 43 ≤ 39) by omega) f1)))))
          · have hc31N := (nI_eq (a := (sk L tp ρ.1.2.2)) (b := ρ.1.2.2) (by omega) (by omega)).mp hc31
            refine aw_iconst (npc := 199) (v := 1) (by decide) dX1_advance_198 rfl ?_
            refine aw_goto (npc := 203) dX1_advance_199 (by decide) ?_
            refine aw_istore_n (npc := 204) (L' := [some (.ref 39), some (.int (nI ρ.1.2.2)), some (.int 1), some (.int 1)]) dX1_advance_203 rfl (by decide) rfl rfl ?_
            refine aw_iload_n (npc := 205) rfl dX1_advance_204 rfl ?_
            refine aw_if_ne (npc := 208) (tgt := 229) dX1_advance_205 rfl (by decide) (fun _ => ?_) (fun hc => absurd hc (by decide))
            refine aw_aload_n (npc := 230) rfl dX1_advance_229 rfl ?_
            refine aw_iconst (npc := 231) (v := 5) (by decide) dX1_advance_230 rfl ?_
            refine aw_put (npc := 234) dX1_advance_231 rfl kf_X1_22 Rd2.1 (Nat.le_of_ble_eq_true rfl) (am_ok_int _) rfl ?_
            have Rd35 := rd_r2 (v := 5) Rd2
            refine aw_vret rfl dX1_advance_234 ?_
            have ea : adv L tp ρ.1 = (5, sk L tp ρ.1.2.2, rn L tp (so (tp (sk L tp ρ.1.2.2))) (sk L tp ρ.1.2.2 + 1)) := by
              unfold adv nx
              rw [hwd, if_neg (show ¬ L ≤ sk L tp ρ.1.2.2 by omega), if_neg hc30N]
              exact if_pos (Or.inl ⟨rfl, hc31N⟩)
            exact hq _ ⟨_, _, Rd35, ((((pk_un (by omega))).trans p1).trans (show nI (rn L tp (so (tp (sk L tp ρ.1.2.2))) (sk L tp ρ.1.2.2 + 1)) = nI (adv L tp ρ.1).2.2 by rw [ea])), ((pk_us).trans (show nI (5) = nI (adv L tp ρ.1).1 by rw [ea])), ((((pk_un (by omega))).trans p23).trans (show nI (sk L tp ρ.1.2.2) = nI (adv L tp ρ.1).2.1 by rw [ea])), (((pk_un (by decide)).trans ((p2 4 (by decide)).trans ((pk_un (by decide)).trans ((pk_un (by decide)).trans ((pk_un (by decide)).trans (q2 4 (by decide))))))).trans m4), (((pk_un (by decide)).trans ((p2 5 (by decide)).trans ((pk_un (by decide)).trans ((pk_un (by decide)).trans ((pk_un (by decide)).trans (q2 5 (by decide))))))).trans m5), (((pk_un (by decide)).trans ((p2 7 (by decide)).trans ((pk_un (by decide)).trans ((pk_un (by decide)).trans ((pk_un (by decide)).trans (q2 7 (by decide))))))).trans m7), (((pk_un (by decide)).trans ((p2 8 (by decide)).trans ((pk_un (by decide)).trans ((pk_un (by decide)).trans ((pk_un (by decide)).trans (q2 8 (by decide))))))).trans m8), (((pk_un (by decide)).trans ((p2 9 (by decide)).trans ((pk_un (by decide)).trans ((pk_un (by decide)).trans ((pk_un (by decide)).trans (q2 9 (by decide))))))).trans m9), (((pk_un (by decide)).trans ((p2 10 (by decide)).trans ((pk_un (by decide)).trans ((pk_un (by decide)).trans ((pk_un (by decide)).trans (q2 10 (by decide))))))).trans m10), mc⟩ (am_fpU (show ¬ (39 < 39 ∨ 43 ≤ 39) by omega) (am_fpT f2 (am_fpU (show ¬ (39 < 39 ∨ 43 ≤ 39) by omega) (am_fpU (show ¬ (39 < 39 ∨ 43 ≤ 39) by omega) (am_fpU (show ¬ (39 < 39 ∨ 43 ≤ 39) by omega) f1)))))
        · have hc30N := (nI_eq (a := (so (tp (sk L tp ρ.1.2.2)))) (b := 3) (by omega) (by omega)).mp hc30
          refine aw_vret rfl dX1_advance_136 ?_
          have ea : adv L tp ρ.1 = (3, sk L tp ρ.1.2.2, sk L tp ρ.1.2.2 + 1) := (if_neg (by omega)).trans (if_pos hc30N)
          exact hq _ ⟨_, _, Rd29, ((pk_us).trans (show nI (sk L tp ρ.1.2.2 + 1) = nI (adv L tp ρ.1).2.2 by rw [ea])), ((((pk_un (by omega))).trans pk_us).trans (show nI (so (tp (sk L tp ρ.1.2.2))) = nI (adv L tp ρ.1).1 by rw [ea]; exact congrArg nI hc30N)), (((((pk_un (by omega))).trans (pk_un (by omega))).trans pk_us).trans (show nI (sk L tp ρ.1.2.2) = nI (adv L tp ρ.1).2.1 by rw [ea])), (((pk_un (by decide)).trans ((pk_un (by decide)).trans ((pk_un (by decide)).trans (q2 4 (by decide))))).trans m4), (((pk_un (by decide)).trans ((pk_un (by decide)).trans ((pk_un (by decide)).trans (q2 5 (by decide))))).trans m5), (((pk_un (by decide)).trans ((pk_un (by decide)).trans ((pk_un (by decide)).trans (q2 7 (by decide))))).trans m7), (((pk_un (by decide)).trans ((pk_un (by decide)).trans ((pk_un (by decide)).trans (q2 8 (by decide))))).trans m8), (((pk_un (by decide)).trans ((pk_un (by decide)).trans ((pk_un (by decide)).trans (q2 9 (by decide))))).trans m9), (((pk_un (by decide)).trans ((pk_un (by decide)).trans ((pk_un (by decide)).trans (q2 10 (by decide))))).trans m10), mc⟩ (am_fpU (show ¬ (39 < 39 ∨ 43 ≤ 39) by omega) (am_fpU (show ¬ (39 < 39 ∨ 43 ≤ 39) by omega) (am_fpU (show ¬ (39 < 39 ∨ 43 ≤ 39) by omega) f1)))
      · have hc26N : ¬ (sk L tp ρ.1.2.2) < L := fun z9q => hc26 ((nI_ltI (a := (sk L tp ρ.1.2.2)) (b := L) (by omega) (by omega)).mpr z9q)
        refine aw_aload_n (npc := 94) rfl dX1_advance_93 rfl ?_
        refine aw_iconst (npc := 95) (v := 0) (by decide) dX1_advance_94 rfl ?_
        refine aw_put (npc := 98) dX1_advance_95 rfl kf_X1_22 Rd25.1 (Nat.le_of_ble_eq_true rfl) (am_ok_int _) rfl ?_
        have Rd36 := rd_r2 (v := 0) Rd25
        refine aw_vret rfl dX1_advance_98 ?_
        have ea : adv L tp ρ.1 = (0, sk L tp ρ.1.2.2, sk L tp ρ.1.2.2) := if_pos (by omega)
        exact hq _ ⟨_, _, Rd36, (((((pk_un (by omega))).trans (pk_un (by omega))).trans q1).trans (show nI (sk L tp ρ.1.2.2) = nI (adv L tp ρ.1).2.2 by rw [ea])), ((pk_us).trans (show nI (0) = nI (adv L tp ρ.1).1 by rw [ea])), ((((pk_un (by omega))).trans pk_us).trans (show nI (sk L tp ρ.1.2.2) = nI (adv L tp ρ.1).2.1 by rw [ea])), (((pk_un (by decide)).trans ((pk_un (by decide)).trans (q2 4 (by decide)))).trans m4), (((pk_un (by decide)).trans ((pk_un (by decide)).trans (q2 5 (by decide)))).trans m5), (((pk_un (by decide)).trans ((pk_un (by decide)).trans (q2 7 (by decide)))).trans m7), (((pk_un (by decide)).trans ((pk_un (by decide)).trans (q2 8 (by decide)))).trans m8), (((pk_un (by decide)).trans ((pk_un (by decide)).trans (q2 9 (by decide)))).trans m9), (((pk_un (by decide)).trans ((pk_un (by decide)).trans (q2 10 (by decide)))).trans m10), mc⟩ (am_fpU (show ¬ (39 < 39 ∨ 43 ≤ 39) by omega) (am_fpU (show ¬ (39 < 39 ∨ 43 ≤ 39) by omega) f1))
theorem wr_I {L : Nat} {tp : Nat → Int32} {k : Int32} (hL : L ≤ 96) : WR L tp (avF L tp (ρI k)) := ⟨(nx_wf (Nat.zero_le _)).1, hL, by show (0 : Nat) ≤ 96; omega, by show (0 : Nat) ≤ 8; omega, by show (0 : Nat) ≤ 8; omega, fun q hq => by cases hq⟩
theorem rk_d {L : Nat} {tp : Nat → Int32} {ρ : RS} : (rkF L tp ρ).2.2.2.2.2 = ρ.2.2.2.2.2 := by
  unfold rkF cI
  repeat' split
  all_goals rfl
set_option maxHeartbeats 4000000 in
set_option maxRecDepth 100000 in
theorem r_find {X : List Int32} {d rc rs n : Nat} {Q : am_Q} {h : am_H} {L : Nat} {tp : Nat → Int32} {r cd : Nat → Int32} (hL : L ≤ 96) (Rd : RD r (nI L) tp cd h) (hq : ∀ h9, RX (ffF L tp (r 5)) L tp h9 → am_fp (fun k => k < 39 ∨ 43 ≤ k) h9 h → Q (some (.int (fI (ffF L tp (r 5)).2.1))) n h9) : AW X mX1_findFault (d + 710) rc rs 0 [some (.ref 39)] [] n h Q := by
  have hO := pc_ok (L := L) (tp := tp) 17
  have hOr := r_or (P := pcF L tp 17) (r_and (P := pcF L tp 17) (r_test (P := pcF L tp 17) (r_sum (P := pcF L tp 17) (r_prod (r_piece 17) hO) (pd_ok hO)) (sm_ok hO)) (tsF_ok hO)) (an_ok hO)
  refine aw_aload_n (npc := 1) rfl dX1_findFault_0 rfl ?_
  refine aw_iconst (npc := 2) (v := 0) (by decide) dX1_findFault_1 rfl ?_
  refine aw_put (npc := 5) dX1_findFault_2 rfl kf_X1_18 Rd.1 (Nat.le_of_ble_eq_true rfl) (am_ok_int _) rfl ?_
  have Rd1 := rd_r1 (v := 0) Rd
  refine aw_aload_n (npc := 6) rfl dX1_findFault_5 rfl ?_
  refine aw_iconst (npc := 7) (v := 0) (by decide) dX1_findFault_6 rfl ?_
  refine aw_put (npc := 10) dX1_findFault_7 rfl kf_X1_22 Rd1.1 (Nat.le_of_ble_eq_true rfl) (am_ok_int _) rfl ?_
  have Rd2 := rd_r2 (v := 0) Rd1
  refine aw_aload_n (npc := 11) rfl dX1_findFault_10 rfl ?_
  refine aw_iconst (npc := 12) (v := -1) (by decide) dX1_findFault_11 rfl ?_
  refine aw_put (npc := 15) dX1_findFault_12 rfl kf_X1_28 Rd2.1 (Nat.le_of_ble_eq_true rfl) (am_ok_int _) rfl ?_
  have Rd3 := rd_r4 (v := (-1)) Rd2
  refine aw_aload_n (npc := 16) rfl dX1_findFault_15 rfl ?_
  refine aw_iconst (npc := 17) (v := 0) (by decide) dX1_findFault_16 rfl ?_
  refine aw_put (npc := 20) dX1_findFault_17 rfl kf_X1_38 Rd3.1 (Nat.le_of_ble_eq_true rfl) (am_ok_int _) rfl ?_
  have Rd4 := rd_r7 (v := 0) Rd3
  refine aw_aload_n (npc := 21) rfl dX1_findFault_20 rfl ?_
  refine aw_iconst (npc := 22) (v := 0) (by decide) dX1_findFault_21 rfl ?_
  refine aw_put (npc := 25) dX1_findFault_22 rfl kf_X1_41 Rd4.1 (Nat.le_of_ble_eq_true rfl) (am_ok_int _) rfl ?_
  have Rd5 := rd_r8 (v := 0) Rd4
  refine aw_aload_n (npc := 26) rfl dX1_findFault_25 rfl ?_
  refine aw_iconst (npc := 27) (v := 0) (by decide) dX1_findFault_26 rfl ?_
  refine aw_put (npc := 30) dX1_findFault_27 rfl kf_X1_44 Rd5.1 (Nat.le_of_ble_eq_true rfl) (am_ok_int _) rfl ?_
  have Rd6 := rd_r9 (v := 0) Rd5
  refine aw_aload_n (npc := 31) rfl dX1_findFault_30 rfl ?_
  refine aw_iconst (npc := 32) (v := 0) (by decide) dX1_findFault_31 rfl ?_
  refine aw_put (npc := 35) dX1_findFault_32 rfl kf_X1_47 Rd6.1 (Nat.le_of_ble_eq_true rfl) (am_ok_int _) rfl ?_
  have Rd7 := rd_r10 (v := 0) Rd6
  refine aw_aload_n (npc := 36) rfl dX1_findFault_35 rfl ?_
  refine aw_callV (npc := 39) (N := mX1_advance) (b := 39) (mc := 0) (ms := 0) (A := []) (S := []) (L0 := [some (.ref 39), none, none, none]) dX1_findFault_36 rfl km_X1_advance kk_X1_50 Rd7.1 ⟨by decide, rfl⟩ rfl ⟨rfl, by decide⟩ rfl (Nat.le_of_ble_eq_true rfl) (Nat.zero_add _) (Nat.zero_add _) rfl ?_
  refine r_adv3 (ρ := ρI (r 5)) ⟨_, _, Rd7, ((((((((pk_un (by omega))).trans (pk_un (by omega))).trans (pk_un (by omega))).trans (pk_un (by omega))).trans (pk_un (by omega))).trans (pk_un (by omega))).trans pk_us), (((((((pk_un (by omega))).trans (pk_un (by omega))).trans (pk_un (by omega))).trans (pk_un (by omega))).trans (pk_un (by omega))).trans pk_us), ((((((pk_un (by omega))).trans (pk_un (by omega))).trans (pk_un (by omega))).trans (pk_un (by omega))).trans pk_us), ((((((((pk_un (by omega))).trans (pk_un (by omega))).trans (pk_un (by omega))).trans (pk_un (by omega))).trans (pk_un (by omega))).trans (pk_un (by omega))).trans (pk_un (by omega))), (((((pk_un (by omega))).trans (pk_un (by omega))).trans (pk_un (by omega))).trans pk_us), ((((pk_un (by omega))).trans (pk_un (by omega))).trans pk_us), (((pk_un (by omega))).trans pk_us), (pk_us), fun j hj => absurd hj (Nat.not_lt_zero j)⟩ hL (Nat.zero_le _) (Nat.zero_le _) (fun hp Ha fz => ?_)
  have Wa := wr_I (L := L) (tp := tp) (k := r 5) hL
  refine aw_aload_n (npc := 40) rfl dX1_findFault_39 rfl ?_
  obtain ⟨r1u, cd1u, Rd1u, m1_1, m2_1, m3_1, m4_1, m5_1, m7_1, m8_1, m9_1, m10_1, mc_1⟩ := id Ha
  refine aw_callV (npc := 43) (N := mX1_readKey) (b := 39) (mc := 0) (ms := 0) (A := []) (S := []) (L0 := [some (.ref 39)]) dX1_findFault_40 rfl km_X1_readKey kk_X1_53 Rd1u.1 ⟨by decide, rfl⟩ rfl ⟨rfl, by decide⟩ rfl (Nat.le_of_ble_eq_true rfl) (Nat.zero_add _) (Nat.zero_add _) rfl ?_
  refine r_key  Ha Wa (fun hp8 Hr9 fz10 => ?_)
  have fyfz10 : ∀ k, (k < 39 ∨ 43 ≤ k) → hp8 k = _ := fun k hk => fz10 k hk
  have Wf11 : WR L tp (rkF L tp (avF L tp (ρI (r 5)))) := wr_rk Wa
  refine aw_aload_n (npc := 44) rfl dX1_findFault_43 rfl ?_
  obtain ⟨r2u, cd2u, Rd2u, m1_2, m2_2, m3_2, m4_2, m5_2, m7_2, m8_2, m9_2, m10_2, mc_2⟩ := id Hr9
  refine aw_callV (npc := 47) (N := mX1_readOr) (b := 39) (mc := 0) (ms := 0) (A := []) (S := []) (L0 := [some (.ref 39), none]) dX1_findFault_44 rfl km_X1_readOr kk_X1_56 Rd2u.1 ⟨by decide, rfl⟩ rfl ⟨rfl, by decide⟩ rfl (Nat.le_of_ble_eq_true rfl) (Nat.zero_add _) (Nat.zero_add _) rfl ?_
  have hd9 : 17 ≤ 17 + (rkF L tp (avF L tp (ρI (r 5)))).2.2.2.2.2.1 + (rkF L tp (avF L tp (ρI (r 5)))).2.2.2.2.2.2 := by omega
  refine aw_dd (d2 := d + 4 + 705) (by omega) ?_
  refine hOr _ _ _ _ _ _ _ (rkF L tp (avF L tp (ρI (r 5)))) Hr9 Wf11 hd9 (fun hp2 Ho fz2 => ?_)
  have Wo := (or_ok (pc_ok 17)) (rkF L tp (avF L tp (ρI (r 5)))) Wf11 hd9
  obtain ⟨wk, w96, wcl, wob, wog, wft⟩ := id Wo.1
  have wt : (ffC L tp (r 5)).1.1 ≤ 5 := wk.2.2.1
  have fyz2 : ∀ k, (k < 39 ∨ 43 ≤ k) → hp2 k = _ := fun k hk => fz2 k hk
  refine aw_aload_n (npc := 48) rfl dX1_findFault_47 rfl ?_
  obtain ⟨r3u, cd3u, Rd3u, m1_3, m2_3, m3_3, m4_3, m5_3, m7_3, m8_3, m9_3, m10_3, mc_3⟩ := id Ho
  refine aw_get (npc := 51) dX1_findFault_48 rfl kf_X1_22 Rd3u.1 rfl ?_
  refine aw_top (y := nI (ffC L tp (r 5)).1.1) (m2_3) ?_
  refine aw_if_eq (npc := 54) (tgt := 58) dX1_findFault_51 rfl (by decide) (fun hc12 => ?_) (fun hc12 => ?_)
  · have hc12N := (nI_eq (a := (ffC L tp (r 5)).1.1) (b := 0) (by omega) (by omega)).mp hc12
    refine aw_aload_n (npc := 59) rfl dX1_findFault_58 rfl ?_
    refine aw_get (npc := 62) dX1_findFault_59 rfl kf_X1_28 Rd3u.1 rfl ?_
    refine aw_top (y := fI (ffC L tp (r 5)).2.1) (m4_3) ?_
    refine aw_iret rfl dX1_findFault_62 ?_
    have e9 : ffF L tp (r 5) = ffC L tp (r 5) := (cI_t (show (ffC L tp (r 5)).1.1 = 0 from hc12N))
    exact (congrArg (fun z : RS => fI z.2.1) e9) ▸ hq _ (rx_c e9.symm Ho) (am_fpT (fun k (hk : k < 39 ∨ 43 ≤ k) => fyz2 k (by omega)) (am_fpT (fun k (hk : k < 39 ∨ 43 ≤ k) => fyfz10 k (by omega)) (am_fpT fz (am_fpU (show ¬ (39 < 39 ∨ 43 ≤ 39) by omega) (am_fpU (show ¬ (39 < 39 ∨ 43 ≤ 39) by omega) (am_fpU (show ¬ (39 < 39 ∨ 43 ≤ 39) by omega) (am_fpU (show ¬ (39 < 39 ∨ 43 ≤ 39) by omega) (am_fpU (show ¬ (39 < 39 ∨ 43 ≤ 39) by omega) (am_fpU (show ¬ (39 < 39 ∨ 43 ≤ 39) by omega) (am_fpU (show ¬ (39 < 39 ∨ 43 ≤ 39) by omega) am_fp0))))))))))
  · have hc12N : ¬ ((ffC L tp (r 5)).1.1) = 0 := fun z9q => hc12 ((nI_eq (a := (ffC L tp (r 5)).1.1) (b := 0) (by omega) (by omega)).mpr z9q)
    refine aw_aload_n (npc := 55) rfl dX1_findFault_54 rfl ?_
    refine aw_callV (npc := 58) (N := mX1_fail) (b := 39) (mc := 0) (ms := 0) (A := []) (S := []) (L0 := [some (.ref 39)]) dX1_findFault_55 rfl km_X1_fail kk_X1_59 Rd3u.1 ⟨by decide, rfl⟩ rfl ⟨rfl, by decide⟩ rfl (Nat.le_of_ble_eq_true rfl) (Nat.zero_add _) (Nat.zero_add _) rfl ?_
    refine r_fail  Ho Wo.1 (fun hp13 Hr14 fz15 => ?_)
    have fyfz15 : ∀ k, (k < 39 ∨ 43 ≤ k) → hp13 k = _ := fun k hk => fz15 k hk
    have Wf16 : WR L tp (flF (ffC L tp (r 5))) := wr_fl Wo.1
    refine aw_aload_n (npc := 59) rfl dX1_findFault_58 rfl ?_
    obtain ⟨r4u, cd4u, Rd4u, m1_4, m2_4, m3_4, m4_4, m5_4, m7_4, m8_4, m9_4, m10_4, mc_4⟩ := id Hr14
    refine aw_get (npc := 62) dX1_findFault_59 rfl kf_X1_28 Rd4u.1 rfl ?_
    refine aw_top (y := fI (flF (ffC L tp (r 5))).2.1) (m4_4) ?_
    refine aw_iret rfl dX1_findFault_62 ?_
    have e9 : ffF L tp (r 5) = flF (ffC L tp (r 5)) := (cI_f (show ¬ (ffC L tp (r 5)).1.1 = 0 from hc12N))
    exact (congrArg (fun z : RS => fI z.2.1) e9) ▸ hq _ (rx_c e9.symm Hr14) (am_fpT (fun k (hk : k < 39 ∨ 43 ≤ k) => fyfz15 k (by omega)) (am_fpT (fun k (hk : k < 39 ∨ 43 ≤ k) => fyz2 k (by omega)) (am_fpT (fun k (hk : k < 39 ∨ 43 ≤ k) => fyfz10 k (by omega)) (am_fpT fz (am_fpU (show ¬ (39 < 39 ∨ 43 ≤ 39) by omega) (am_fpU (show ¬ (39 < 39 ∨ 43 ≤ 39) by omega) (am_fpU (show ¬ (39 < 39 ∨ 43 ≤ 39) by omega) (am_fpU (show ¬ (39 < 39 ∨ 43 ≤ 39) by omega) (am_fpU (show ¬ (39 < 39 ∨ 43 ≤ 39) by omega) (am_fpU (show ¬ (39 < 39 ∨ 43 ≤ 39) by omega) (am_fpU (show ¬ (39 < 39 ∨ 43 ≤ 39) by omega) am_fp0)))))))))))
theorem tl_rep (n : Nat) : List.replicate n (0 : Int32) = tl n (fun _ => 0) := by
  apply List.ext_getElem?
  intro i
  by_cases h : i < n
  · rw [tl_at h, List.getElem?_replicate, if_pos h]
  · rw [List.getElem?_replicate, if_neg h, List.getElem?_eq_none (by rw [tl_len]; omega)]
theorem am_cpy_cut {a b : Nat} {f g : Nat → Int32} (h : b ≤ a) : am_cpy (tl a f) (tl b g) 0 0 b = tl b f := by
  rw [am_cpy_tl (by omega)]
  apply tl_congr
  intro j hj
  rw [if_pos ⟨by omega, by omega⟩]
  congr 1
  omega
theorem r_copyOf {X : List Int32} {d n : Nat} {Q : am_Q} {h : am_H} {a lc : Nat} {cd : Nat → Int32} (ha : h a = some (.inl (0, tl 96 cd))) (hl : lc < 96) (hn : n < 1000000) (hna : a ≠ n) (hq : ∀ h9, h9 n = some (.inl (0, tl lc cd)) → (∀ k, k ≠ n → h9 k = h k) → Q (some (.ref n)) (n + 1) h9) : AW X mJ7_copyOf_59c91 (d + 1) 1 lc 0 [some (.ref a), some (.int (nI lc)), none] [] n h Q := by
  refine aw_iload_n (npc := 1) rfl dJ7_copyOf_59c91_0 rfl ?_
  refine aw_aload_n (npc := 2) rfl dJ7_copyOf_59c91_1 rfl ?_
  refine aw_alen (npc := 3) (v := nI 96) dJ7_copyOf_59c91_2 rfl ha (by rw [tl_len]; rfl) ?_
  refine aw_icmp_ne (npc := 6) (tgt := 14) dJ7_copyOf_59c91_3 rfl (by decide) (fun _ => ?_) (fun e => absurd ((nI_eq (a := lc) (b := 96) (by omega) (by omega)).mp e) (by omega))
  refine aw_iload_n (npc := 15) rfl dJ7_copyOf_59c91_14 rfl ?_
  refine aw_newi (npc := 17) (N := lc) (rc' := 0) (rs' := 0) dJ7_copyOf_59c91_15 rfl ka_int (am_ix_nI (by omega)) (by omega) hn rfl (by omega) rfl ?_
  refine aw_astore_n (npc := 18) (L' := [some (.ref a), some (.int (nI lc)), some (.ref n)]) dJ7_copyOf_59c91_17 rfl (by decide) rfl rfl ?_
  refine aw_aload_n (npc := 19) rfl dJ7_copyOf_59c91_18 rfl ?_
  refine aw_iconst (npc := 20) (v := 0) (by decide) dJ7_copyOf_59c91_19 rfl ?_
  refine aw_aload_n (npc := 21) rfl dJ7_copyOf_59c91_20 rfl ?_
  refine aw_iconst (npc := 22) (v := 0) (by decide) dJ7_copyOf_59c91_21 rfl ?_
  refine aw_aload_n (npc := 23) rfl dJ7_copyOf_59c91_22 rfl ?_
  refine aw_alen (npc := 24) (v := nI 96) dJ7_copyOf_59c91_23 rfl (am_ne hna ha) (by rw [tl_len]; rfl) ?_
  refine aw_iload_n (npc := 25) rfl dJ7_copyOf_59c91_24 rfl ?_
  refine aw_mmin (npc := 28) dJ7_copyOf_59c91_25 rfl kmm_J7_304 kmx_min (Nat.le_of_ble_eq_true rfl) ?_
  refine aw_top (y := nI lc) (if_pos ((nI_ltI (a := lc) (b := 96) (by omega) (by omega)).mpr hl)) ?_
  refine aw_copyi (npc := 31) (sp := 0) (dp := 0) (mm := lc) dJ7_copyOf_59c91_28 rfl kac_J7_150 kac_x (am_ne hna ha) am_eq ⟨by decide, by decide⟩ ⟨by decide, by decide⟩ (am_ix_nI (by omega)) (by rw [tl_len]; omega) (by rw [List.length_replicate]; omega) (Nat.le_of_ble_eq_true rfl) rfl ?_
  refine aw_aload_n (npc := 32) rfl dJ7_copyOf_59c91_31 rfl ?_
  refine aw_aret rfl (Or.inr ⟨_, rfl⟩) dJ7_copyOf_59c91_32 ?_
  refine hq _ (am_eq.trans ?_) (fun k hk => (am_nE hk).trans (am_nE hk))
  rw [tl_rep, am_cpy_cut (by omega)]
def mx1 (k : Nat) : Nat := if k < 1 then 1 else k
theorem r_tinit {X : List Int32} {d n b k : Nat} {Q : am_Q} {h : am_H} {c : Nat} {key : Int32} (hk : k < 1000) (hb : h b = some (.inr (5, [.int 0, .int 0, .null, .null]))) (hn : n < 1000000) (hnb : b ≠ n) (hq : ∀ h9, h9 b = some (.inr (5, [.int key, .int (nI k), .ref c, .ref n])) → h9 n = some (.inl (0, tl (mx1 k) (fun _ => 0))) → (∀ j, j ≠ n → j ≠ b → h9 j = h j) → Q none (n + 1) h9) : AW X mX5_init (d + 1) 1 (mx1 k) 0 [some (.ref b), some (.int key), some (.int (nI k)), some (.ref c)] [] n h Q := by
  have hm : mx1 k < 1000 := by unfold mx1; split <;> omega
  refine aw_aload_n (npc := 1) rfl dX5_init_0 rfl ?_
  refine aw_obj (npc := 4) dX5_init_1 rfl ko_X5_1 ko_i ko_c (Nat.le_of_ble_eq_true rfl) ?_
  refine aw_aload_n (npc := 5) rfl dX5_init_4 rfl ?_
  refine aw_iload_n (npc := 6) rfl dX5_init_5 rfl ?_
  refine aw_putF (npc := 9) dX5_init_6 rfl rfl (fun _ _ _ h9 => by cases h9; rfl) kf_X5_7 hb (Nat.le_of_ble_eq_true rfl) (am_ok_int _) rfl ?_
  refine aw_aload_n (npc := 10) rfl dX5_init_9 rfl ?_
  refine aw_iload_n (npc := 11) rfl dX5_init_10 rfl ?_
  refine aw_putF (npc := 14) dX5_init_11 rfl rfl (fun _ _ _ h9 => by cases h9; rfl) kf_X5_13 am_eq (Nat.le_of_ble_eq_true rfl) (am_ok_int _) rfl ?_
  refine aw_aload_n (npc := 15) rfl dX5_init_14 rfl ?_
  refine aw_aload_n (npc := 16) rfl dX5_init_15 rfl ?_
  refine aw_putF (npc := 19) dX5_init_16 rfl rfl (fun _ _ _ h9 => by cases h9; rfl) kf_X5_16 am_eq (Nat.le_of_ble_eq_true rfl) (am_ok_arr _ _) rfl ?_
  refine aw_aload_n (npc := 20) rfl dX5_init_19 rfl ?_
  refine aw_iload_n (npc := 21) rfl dX5_init_20 rfl ?_
  refine aw_iconst (npc := 22) (v := 1) (by decide) dX5_init_21 rfl ?_
  refine aw_mmax (npc := 25) dX5_init_22 rfl kmm_X5_20 kmx_max (Nat.le_of_ble_eq_true rfl) ?_
  refine aw_top (y := nI (mx1 k)) ?_ ?_
  · unfold mx1
    by_cases e : k < 1
    · rw [if_pos e]; exact if_pos ((nI_ltI (a := k) (b := 1) (by omega) (by omega)).mpr e)
    · rw [if_neg e]; exact if_neg (fun z => e ((nI_ltI (a := k) (b := 1) (by omega) (by omega)).mp z))
  refine aw_newi (npc := 27) (N := mx1 k) (rc' := 0) (rs' := 0) dX5_init_25 rfl ka_int (am_ix_nI (by omega)) (by omega) hn rfl (by omega) rfl ?_
  refine aw_putF (npc := 30) dX5_init_27 rfl rfl (fun _ _ _ h9 => by cases h9; rfl) kf_X5_26 (am_ne hnb am_eq) (Nat.le_of_ble_eq_true rfl) (am_ok_arr _ _) rfl ?_
  refine aw_vret rfl dX5_init_30 ?_
  refine hq _ am_eq ((am_ne (Ne.symm hnb) am_eq).trans ?_) (fun j h1 h2 => ?_)
  · rw [tl_rep]
  · rw [am_nE h2, am_nE h1, am_nE h2, am_nE h2, am_nE h2]
theorem r_make {X : List Int32} {d n : Nat} {Q : am_Q} {h : am_H} {L lc k : Nat} {r tp cd : Nat → Int32} {tn : Int32} (Rd : RD r tn tp cd h) (h7 : r 7 = nI lc) (h8 : r 8 = nI k) (hl : lc < 96) (hk : k < 1000) (hn0 : 92 ≤ n) (hn : n + 2 < 1000000) (hq : ∀ h9, h9 n = some (.inr (5, [.int (r 5), .int (nI k), .ref (n + 1), .ref (n + 2)])) → h9 (n + 1) = some (.inl (0, tl lc cd)) → h9 (n + 2) = some (.inl (0, tl (mx1 k) (fun _ => 0))) → (∀ j, j < n → h9 j = h j) → Q (some (.ref n)) (n + 3) h9) : AW X mX1_makeText (d + 2) 3 (4 + lc + mx1 k) 0 [some (.ref 39)] [] n h Q := by
  refine aw_new (npc := 3) (rc' := 2) (rs' := lc + mx1 k) dX1_makeText_0 rfl kn_X1_62 (by omega) rfl (by show lc + mx1 k + 4 = _; omega) rfl ?_
  refine aw_dup (npc := 4) rfl dX1_makeText_3 rfl ?_
  refine aw_aload_n (npc := 5) rfl dX1_makeText_4 rfl ?_
  have R1 := rd_out (a := n) (c := .inr (5, [.int 0, .int 0, .null, .null])) (by omega) Rd
  refine aw_get (npc := 8) dX1_makeText_5 rfl kf_X1_31 R1.1 rfl ?_
  refine aw_aload_n (npc := 9) rfl dX1_makeText_8 rfl ?_
  refine aw_get (npc := 12) dX1_makeText_9 rfl kf_X1_41 R1.1 rfl ?_
  refine aw_aload_n (npc := 13) rfl dX1_makeText_12 rfl ?_
  refine aw_get (npc := 16) dX1_makeText_13 rfl kf_X1_34 R1.1 rfl ?_
  refine aw_aload_n (npc := 17) rfl dX1_makeText_16 rfl ?_
  refine aw_get (npc := 20) dX1_makeText_17 rfl kf_X1_38 R1.1 rfl ?_
  refine aw_re (S' := [.int (nI lc), .ref 42, .int (nI k), .int (r 5), .ref n, .ref n]) (by rw [h7, h8]) ?_
  refine aw_callS (npc := 23) (N := mJ7_copyOf_59c91) (mc := 1) (ms := lc) (rc' := 1) (rs' := mx1 k) (A := [.ref 42, .int (nI lc)]) (S := [.int (nI k), .int (r 5), .ref n, .ref n]) (L0 := [some (.ref 42), some (.int (nI lc)), none]) dX1_makeText_20 rfl km_J7_copyOf_59c91 kk_X1_64 rfl ⟨rfl, by decide⟩ rfl (Nat.le_of_ble_eq_true rfl) rfl (by omega) rfl ?_
  refine r_copyOf (a := 42) R1.2.2.2 hl (by omega) (by omega) (fun h2 e1 f1 => ?_)
  refine aw_re (S' := [.ref (n + 1), .int (nI k), .int (r 5), .ref n, .ref n]) rfl ?_
  refine aw_callI (npc := 26) (b := n) (mc := 1) (ms := mx1 k) (rc' := 0) (rs' := 0) (A := [.int (r 5), .int (nI k), .ref (n + 1)]) (S := [.ref n]) (L0 := [some (.ref n), some (.int (r 5)), some (.int (nI k)), some (.ref (n + 1))]) dX1_makeText_23 rfl km_X5_init kk_X1_70 rfl ⟨rfl, by decide⟩ rfl (Nat.le_of_ble_eq_true rfl) rfl (by omega) rfl ?_
  refine r_tinit hk ((f1 n (by omega)).trans am_eq) (by omega) (by omega) (fun h3 g1 g2 g3 => ?_)
  refine aw_re (S' := [.ref n]) rfl ?_
  refine aw_aret rfl (Or.inl ⟨_, rfl⟩) dX1_makeText_26 ?_
  exact hq _ g1 ((g3 _ (by omega) (by omega)).trans e1) g2 (fun j hj => (g3 j (by omega) (by omega)).trans ((f1 j (by omega)).trans (am_nE (by omega))))
theorem ff_wr {L : Nat} {tp : Nat → Int32} {k : Int32} (hL : L ≤ 96) : WR L tp (ffF L tp k) := by
  have z := (or_ok (pc_ok (L := L) (tp := tp) 17) (rkF L tp (avF L tp (ρI k))) (wr_rk (wr_I hL)) (by omega)).1
  exact wr_c (fun _ => z) (fun _ => wr_fl z)
theorem qr_cnt {b : Nat} {N : Nat → Int32} {tx : List Value} {lk mv : Nat → Int32} {h : am_H} {v : Int32} (F : QR b N tx lk mv h) : QR b (upd N 7 v) tx lk mv (am_up h b (.inr (0, (QO b N).set 16 (.int v)))) := by
  obtain ⟨f0, f1, f2, f3, f4, f5, f6, f7, f8, f9, f10, f11⟩ := F
  exact ⟨(am_eq.trans (by simp only [QO, List.set]; rw [pk_us (f := N) (k := 7), pk_un (f := N) (k := 7) (j := 3) (by omega), pk_un (f := N) (k := 7) (j := 4) (by omega), pk_un (f := N) (k := 7) (j := 5) (by omega), pk_un (f := N) (k := 7) (j := 6) (by omega), pk_un (f := N) (k := 7) (j := 2) (by omega), pk_un (f := N) (k := 7) (j := 0) (by omega), pk_un (f := N) (k := 7) (j := 1) (by omega)])), (am_ne (by omega) (f1.trans (congrArg (fun l : List Int32 => (some (.inl (0, l)) : Option am_AC)) (tl_keep (fun i hi => by omega))))), (am_ne (by omega) (f2.trans (congrArg (fun l : List Int32 => (some (.inl (0, l)) : Option am_AC)) (tl_keep (fun i hi => by omega))))), (am_ne (by omega) (f3.trans (congrArg (fun l : List Int32 => (some (.inl (0, l)) : Option am_AC)) (tl_keep (fun i hi => by omega))))), (am_ne (by omega) (f4.trans (congrArg (fun l : List Int32 => (some (.inl (0, l)) : Option am_AC)) (tl_keep (fun i hi => by omega))))), (am_ne (by omega) (f5.trans (congrArg (fun l : List Int32 => (some (.inl (0, l)) : Option am_AC)) (tl_keep (fun i hi => by omega))))), (am_ne (by omega) (f6.trans (congrArg (fun l : List Int32 => (some (.inl (0, l)) : Option am_AC)) (tl_keep (fun i hi => by omega))))), (am_ne (by omega) (f7.trans (congrArg (fun l : List Int32 => (some (.inl (0, l)) : Option am_AC)) (tl_keep (fun i hi => by omega))))), (am_ne (by omega) (f8.trans (congrArg (fun l : List Int32 => (some (.inl (0, l)) : Option am_AC)) (tl_keep (fun i hi => by omega))))), (am_ne (by omega) f9), (am_ne (by omega) f10), (am_ne (by omega) f11)⟩
theorem qr_tx {b j : Nat} {N : Nat → Int32} {tx : List Value} {lk mv : Nat → Int32} {h : am_H} {v : Value} (F : QR b N tx lk mv h) : QR b N (tx.set j v) lk mv (am_up h (b + 9) (.inr (15, tx.set j v))) := by
  obtain ⟨f0, f1, f2, f3, f4, f5, f6, f7, f8, f9, f10, f11⟩ := F
  exact ⟨am_ne (by omega) f0, am_ne (by omega) f1, am_ne (by omega) f2, am_ne (by omega) f3, am_ne (by omega) f4, am_ne (by omega) f5, am_ne (by omega) f6, am_ne (by omega) f7, am_ne (by omega) f8, am_eq, am_ne (by omega) f10, am_ne (by omega) f11⟩
theorem qr_lk {b j : Nat} {N : Nat → Int32} {tx : List Value} {lk mv : Nat → Int32} {h : am_H} {v : Int32} (F : QR b N tx lk mv h) : QR b N tx (upd lk j v) mv (am_up h (b + 10) (.inl (0, (tl 3 lk).set j v))) := by
  obtain ⟨f0, f1, f2, f3, f4, f5, f6, f7, f8, f9, f10, f11⟩ := F
  exact ⟨am_ne (by omega) f0, am_ne (by omega) f1, am_ne (by omega) f2, am_ne (by omega) f3, am_ne (by omega) f4, am_ne (by omega) f5, am_ne (by omega) f6, am_ne (by omega) f7, am_ne (by omega) f8, am_ne (by omega) f9, am_eq.trans (congrArg (fun l : List Int32 => (some (.inl (0, l)) : Option am_AC)) tl_set), am_ne (by omega) f11⟩
theorem r_addText {X : List Int32} {d rc rs n : Nat} {Q : am_Q} {h : am_H} {N : Nat → Int32} {tx : List Value} {lk mv : Nat → Int32} {a c ky : Nat} {fs : List Value} (F : QR 1 N tx lk mv h) (hc : N 7 = nI c) (hc14 : c < 14) (hky : ky < 3) (htx : tx.length = 14) (ha : 13 ≤ a) (hT : h a = some (.inr (5, .int (nI ky) :: fs))) (hq : ∀ h9, QR 1 (upd N 7 (nI (c + 1))) (tx.set c (.ref a)) (upd lk ky (nI c)) mv h9 → (∀ k, (k < 1 ∨ 13 ≤ k) → h9 k = h k) → Q none n h9) : AW X mX0_addText (d + 1) rc rs 0 [some (.ref 1), some (.ref a)] [] n h Q := by
  have hw : wi (nI ky) 0 2 := ⟨nI_pos (by omega), fun z => absurd ((nI_ltI (a := 2) (b := ky) (by omega) (by omega)).mp z) (by omega)⟩
  refine aw_aload_n (npc := 1) rfl dX0_addText_0 rfl ?_
  refine aw_ifnull (npc := 4) dX0_addText_1 rfl ?_
  refine aw_aload_n (npc := 5) rfl dX0_addText_4 rfl ?_
  refine aw_get (npc := 8) dX0_addText_5 rfl kf_X0_64 F.1 rfl ?_
  refine aw_top (y := nI c) hc ?_
  refine aw_bipush (npc := 10) (v := 14) (by decide) dX0_addText_8 rfl ?_
  refine aw_icmp_ge (npc := 13) (tgt := 25) dX0_addText_10 rfl (by decide) (fun z => absurd ((nI_leI (a := 14) (b := c) (by omega) (by omega)).mp z) (by omega)) (fun _ => ?_)
  refine aw_aload_n (npc := 14) rfl dX0_addText_13 rfl ?_
  refine aw_get (npc := 17) dX0_addText_14 rfl kf_X0_83 hT rfl ?_
  refine aw_iconst (npc := 18) (v := 0) (by decide) dX0_addText_17 rfl ?_
  refine aw_iconst (npc := 19) (v := 2) (by decide) dX0_addText_18 rfl ?_
  refine aw_callSN (npc := 22) (N := mX7_within) (mc := 0) (ms := 0) (A := [.int (nI ky), .int 0, .int 2]) (S := []) (L0 := [some (.int (nI ky)), some (.int 0), some (.int 2)]) dX0_addText_19 rfl km_X7_within kk_X0_79 rfl ⟨rfl, by decide⟩ rfl (Nat.le_of_ble_eq_true rfl) (Nat.zero_add _) (Nat.zero_add _) rfl ?_
  refine c_X7_within (fun _ => ?_) (fun z => absurd hw z)
  refine aw_re (S' := [.int 1]) rfl ?_
  refine aw_if_ne (npc := 25) (tgt := 26) dX0_addText_22 rfl (by decide) (fun _ => ?_) (fun z => absurd z (by decide))
  refine aw_aload_n (npc := 27) rfl dX0_addText_26 rfl ?_
  refine aw_get (npc := 30) dX0_addText_27 rfl kf_X0_60 F.1 rfl ?_
  refine aw_aload_n (npc := 31) rfl dX0_addText_30 rfl ?_
  refine aw_get (npc := 34) dX0_addText_31 rfl kf_X0_64 F.1 rfl ?_
  refine aw_top (y := nI c) hc ?_
  refine aw_aload_n (npc := 35) rfl dX0_addText_34 rfl ?_
  refine aw_aastO (npc := 36) (j := c) dX0_addText_35 rfl F.2.2.2.2.2.2.2.2.2.1 (Or.inr ⟨a, _, rfl, hT⟩) (am_ix_nI (by omega)) (by omega) rfl ?_
  have F1 := qr_tx (j := c) (v := .ref a) F
  refine aw_aload_n (npc := 37) rfl dX0_addText_36 rfl ?_
  refine aw_get (npc := 40) dX0_addText_37 rfl kf_X0_67 F1.1 rfl ?_
  refine aw_aload_n (npc := 41) rfl dX0_addText_40 rfl ?_
  refine aw_get (npc := 44) dX0_addText_41 rfl kf_X0_83 (am_ne (by omega) hT) rfl ?_
  refine aw_aload_n (npc := 45) rfl dX0_addText_44 rfl ?_
  refine aw_get (npc := 48) dX0_addText_45 rfl kf_X0_64 F1.1 rfl ?_
  refine aw_top (y := nI c) hc ?_
  refine aw_iast (npc := 49) (j := ky) dX0_addText_48 rfl F1.2.2.2.2.2.2.2.2.2.2.1 (am_ix_nI (by omega)) (by rw [tl_len]; omega) rfl ?_
  have F2 := qr_lk (j := ky) (v := nI c) F1
  refine aw_aload_n (npc := 50) rfl dX0_addText_49 rfl ?_
  refine aw_dup (npc := 51) rfl dX0_addText_50 rfl ?_
  refine aw_get (npc := 54) dX0_addText_51 rfl kf_X0_64 F2.1 rfl ?_
  refine aw_top (y := nI c) hc ?_
  refine aw_iconst (npc := 55) (v := 1) (by decide) dX0_addText_54 rfl ?_
  refine aw_iadd (npc := 56) dX0_addText_55 rfl ?_
  refine aw_top (y := nI (c + 1)) (nI_add _ 1) ?_
  refine aw_put (npc := 59) dX0_addText_56 rfl kf_X0_64 F2.1 (Nat.le_of_ble_eq_true rfl) (am_ok_int _) rfl ?_
  refine aw_vret rfl dX0_addText_59 ?_
  exact hq _ (qr_cnt F2) (fun k hk => (am_nE (by omega)).trans ((am_nE (by omega)).trans (am_nE (by omega))))
theorem t_text {X : List Int32} {d rc rs n : Nat} {Q : am_Q} {h : am_H} {ik wc : Int32} {L c : Nat} {r tp cd N lk mv : Nat → Int32} {tx : List Value} (O : OB ik wc h) (Rd : RD r (nI L) tp cd h) (hL : L ≤ 96) (F : QR 1 N tx lk mv h) (hc : N 7 = nI c) (hc14 : c ≤ 14) (htx : tx.length = 14) (hn0 : 92 ≤ n) (hn : n + 2 < 1000000)
    (hok : (ffF L tp (r 5)).2.1 = none → (ffF L tp (r 5)).2.2.2.1.length < 96 ∧ (ffF L tp (r 5)).2.2.2.2.1 ≤ 96 ∧ ∃ ky, ky < 3 ∧ (ffF L tp (r 5)).2.2.1 = nI ky)
    (kA : ∀ q, (ffF L tp (r 5)).2.1 = some q → q ≤ 96 → ∀ h9 r9 cd9, RD r9 0 tp cd9 h9 → (∀ k, (k < 39 ∨ 43 ≤ k) → h9 k = h k) → Q (some (.int (-100 - nI q))) n h9)
    (kB : (ffF L tp (r 5)).2.1 = none → c = 14 → ∀ h9 r9 cd9, RD r9 0 tp cd9 h9 → (∀ k, (k < 39 ∨ 43 ≤ k) → h9 k = h k) → Q (some (.int (-1000000003))) n h9)
    (kC : (ffF L tp (r 5)).2.1 = none → c < 14 → ∀ ky h9 r9 cd9, ky < 3 → (ffF L tp (r 5)).2.2.1 = nI ky → RD r9 0 tp cd9 h9 → QR 1 (upd N 7 (nI (c + 1))) (tx.set c (.ref n)) (upd lk ky (nI c)) mv h9 → h9 n = some (.inr (5, [.int (nI ky), .int (nI (ffF L tp (r 5)).2.2.2.2.1), .ref (n + 1), .ref (n + 2)])) → h9 (n + 1) = some (.inl (0, tl (ffF L tp (r 5)).2.2.2.1.length cd9)) → (∀ j, j < (ffF L tp (r 5)).2.2.2.1.length → cd9 j = (ffF L tp (r 5)).2.2.2.1.getD j 0) → h9 (n + 2) = some (.inl (0, tl (mx1 (ffF L tp (r 5)).2.2.2.2.1) (fun _ => 0))) → (∀ k, k < n → (k < 1 ∨ 13 ≤ k) → (k < 39 ∨ 43 ≤ k) → h9 k = h k) → Q (some (.int (nI c))) (n + 3) h9) : AW X mX7_text (d + 711) (rc + 3) (rs + 200) 0 [some (.ref 0), none] [] n h Q := by
  have hcn : c < 2 ^ 31 := by omega
  refine aw_aload_n (npc := 1) rfl dX7_text_0 rfl ?_
  refine aw_get (npc := 4) dX7_text_1 rfl kf_X7_36 O.1 rfl ?_
  refine aw_callV (npc := 7) (N := mX1_findFault) (b := 39) (mc := 0) (ms := 0) (A := []) (S := []) (L0 := [some (.ref 39)]) dX7_text_4 rfl km_X1_findFault kk_X7_243 Rd.1 ⟨by decide, rfl⟩ rfl ⟨rfl, by decide⟩ rfl (Nat.le_of_ble_eq_true rfl) (Nat.zero_add _) (Nat.zero_add _) rfl ?_
  refine r_find hL Rd (fun h1 H1 f1 => ?_)
  obtain ⟨r1, cd1, R1, m1, m2, m3, m4, m5, m7, m8, m9, m10, mc⟩ := H1
  refine aw_re (S' := [.int (fI (ffF L tp (r 5)).2.1)]) rfl ?_
  refine aw_istore_n (npc := 8) (L' := [some (.ref 0), some (.int (fI (ffF L tp (r 5)).2.1))]) dX7_text_7 rfl (by decide) rfl rfl ?_
  refine aw_aload_n (npc := 9) rfl dX7_text_8 rfl ?_
  have O1 := ob_frame O (f1 0 (by omega)) (f1 43 (by omega)) (f1 44 (by omega))
  refine aw_get (npc := 12) dX7_text_9 rfl kf_X7_44 O1.1 rfl ?_
  refine aw_iconst (npc := 13) (v := 0) (by decide) dX7_text_12 rfl ?_
  refine aw_put (npc := 16) dX7_text_13 rfl kf_X7_234 R1.2.1 (Nat.le_of_ble_eq_true rfl) (am_ok_int _) rfl ?_
  have R2 := rd_len (v := 0) R1
  have O2 := ob_out (a := 40) (c := .inr (4, ([.ref 41, .int (nI L)] : List Value).set 1 (.int 0))) (by omega) O1
  have F2 := qr_out (a := 40) (c := .inr (4, ([.ref 41, .int (nI L)] : List Value).set 1 (.int 0))) (by omega) (qr_frame F (fun k h1 h2 => f1 k (by omega)))
  have f2 : ∀ k, (k < 39 ∨ 43 ≤ k) → am_up h1 40 (.inr (4, ([.ref 41, .int (nI L)] : List Value).set 1 (.int 0))) k = h k := fun k hk => (am_nE (by omega)).trans (f1 k hk)
  refine aw_iload_n (npc := 17) rfl dX7_text_16 rfl ?_
  rcases hf : (ffF L tp (r 5)).2.1 with _ | q
  · refine aw_if_lt (npc := 20) (tgt := 25) dX7_text_17 rfl (by decide) (fun _ => ?_) (fun z => absurd (by decide : (-1 : Int32) < 0) z)
    refine aw_aload_n (npc := 26) rfl dX7_text_25 rfl ?_
    refine aw_get (npc := 29) dX7_text_26 rfl kf_X7_10 O2.1 rfl ?_
    refine aw_get (npc := 32) dX7_text_29 rfl kf_X7_246 F2.1 rfl ?_
    refine aw_top (y := nI c) hc ?_
    refine aw_bipush (npc := 34) (v := 14) (by decide) dX7_text_32 rfl ?_
    refine aw_icmp_lt (npc := 37) (tgt := 40) dX7_text_34 rfl (by decide) (fun z => ?_) (fun z => ?_)
    · have zc : c < 14 := (nI_ltI (a := c) (b := 14) (by omega) (by omega)).mp z
      obtain ⟨hl, hp, ky, hk, ek⟩ := hok hf
      have hm : mx1 (ffF L tp (r 5)).2.2.2.2.1 ≤ 96 := by unfold mx1; split <;> omega
      refine aw_aload_n (npc := 41) rfl dX7_text_40 rfl ?_
      refine aw_get (npc := 44) dX7_text_41 rfl kf_X7_10 O2.1 rfl ?_
      refine aw_aload_n (npc := 45) rfl dX7_text_44 rfl ?_
      refine aw_get (npc := 48) dX7_text_45 rfl kf_X7_36 O2.1 rfl ?_
      refine aw_callV (npc := 51) (N := mX1_makeText) (b := 39) (mc := 3) (ms := 4 + (ffF L tp (r 5)).2.2.2.1.length + mx1 (ffF L tp (r 5)).2.2.2.2.1) (rc' := rc) (rs' := rs + 200 - (4 + (ffF L tp (r 5)).2.2.2.1.length + mx1 (ffF L tp (r 5)).2.2.2.2.1)) (A := []) (S := [.ref 1]) (L0 := [some (.ref 39)]) dX7_text_48 rfl km_X1_makeText kk_X7_249 R2.1 ⟨by decide, rfl⟩ rfl ⟨rfl, by decide⟩ rfl (Nat.le_of_ble_eq_true rfl) (by omega) (by omega) rfl ?_
      refine r_make (L := L) R2 m7 m8 hl (by omega) hn0 hn (fun h3 e0 e1 e2 f3 => ?_)
      refine aw_re (S' := [.ref n, .ref 1]) rfl ?_
      have F3 := qr_frame F2 (fun k a1 a2 => f3 k (by omega))
      have R3 := rd_frame R2 (fun k a1 a2 => f3 k (by omega))
      have O3 := ob_frame O2 (f3 0 (by omega)) (f3 43 (by omega)) (f3 44 (by omega))
      refine aw_callV (npc := 54) (N := mX0_addText) (b := 1) (mc := 0) (ms := 0) (A := [.ref n]) (S := []) (L0 := [some (.ref 1), some (.ref n)]) dX7_text_51 rfl km_X0_addText kk_X7_253 F3.1 ⟨by decide, rfl⟩ rfl ⟨rfl, by decide⟩ rfl (Nat.le_of_ble_eq_true rfl) (Nat.zero_add _) (Nat.zero_add _) rfl ?_
      have e5 : r1 5 = nI ky := m5.trans ek
      refine r_addText (ky := ky) F3 hc zc hk htx (by omega) (e0.trans (by rw [e5])) (fun h4 F4 f4 => ?_)
      refine aw_re (S' := []) rfl ?_
      have O4 := ob_frame O3 (f4 0 (by omega)) (f4 43 (by omega)) (f4 44 (by omega))
      have R4 := rd_frame R3 (fun k a1 a2 => f4 k (by omega))
      refine aw_aload_n (npc := 55) rfl dX7_text_54 rfl ?_
      refine aw_get (npc := 58) dX7_text_55 rfl kf_X7_10 O4.1 rfl ?_
      refine aw_get (npc := 61) dX7_text_58 rfl kf_X7_246 F4.1 rfl ?_
      refine aw_top (y := nI (c + 1)) pk_us ?_
      refine aw_iconst (npc := 62) (v := 1) (by decide) dX7_text_61 rfl ?_
      refine aw_isub (npc := 63) dX7_text_62 rfl ?_
      refine aw_top (y := nI c) (pk_sub (a := c + 1) (b := 1) (by omega)) ?_
      refine aw_iret rfl dX7_text_63 ?_
      exact kC hf zc ky h4 r1 cd1 hk ek R4 F4 ((f4 n (by omega)).trans (e0.trans (by rw [e5]))) ((f4 (n + 1) (by omega)).trans e1) mc ((f4 (n + 2) (by omega)).trans e2) (fun k a1 a2 a3 => (f4 k a2).trans ((f3 k a1).trans (f2 k a3)))
    · have zc : c = 14 := by
        have z2 : ¬ c < 14 := fun y => z ((nI_ltI (a := c) (b := 14) (by omega) (by omega)).mpr y)
        omega
      refine aw_ldc (npc := 39) kc_X7_82 dX7_text_37 rfl ?_
      refine aw_iret rfl dX7_text_39 ?_
      exact kB hf zc _ _ _ R2 f2
  · have hq96 : q ≤ 96 := (ff_wr hL).2.2.2.2.2 q hf
    refine aw_if_lt (npc := 20) (tgt := 25) dX7_text_17 rfl (by decide) (fun z => absurd z (nI_pos (n := q) (by omega))) (fun _ => ?_)
    refine aw_bipush (npc := 22) (v := -100) (by decide) dX7_text_20 rfl ?_
    refine aw_iload_n (npc := 23) rfl dX7_text_22 rfl ?_
    refine aw_isub (npc := 24) dX7_text_23 rfl ?_
    refine aw_iret rfl dX7_text_24 ?_
    exact kA q hf hq96 _ _ _ R2 f2
