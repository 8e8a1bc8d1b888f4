theorem shr0 (x : Int32) : x >>> ((0 : Int32) &&& 31) = x := by
  rw [show (0 : Int32) &&& 31 = 0 by decide]; exact Int32.shiftRight_zero
def sch (i k : Nat) : Int32 := (((am_sbyt.getD i []).getD k 0 &&& 255).toUInt32 % 65536).toInt32
theorem slen_lt {i : Nat} (hi : i < 6) : am_slen.getD i 0 ≤ 4 := by
  rcases (show i = 0 ∨ i = 1 ∨ i = 2 ∨ i = 3 ∨ i = 4 ∨ i = 5 by omega) with rfl | rfl | rfl | rfl | rfl | rfl <;> decide
set_option maxHeartbeats 4000000 in
set_option maxRecDepth 100000 in
theorem c_slen {X : List Int32} {d rc rs n : Nat} {Q : am_Q} {h : am_H} {i : Nat} (hi : i < 6) (hq : Q (some (.int (nI (am_slen.getD i 0)))) n h) : AW X mJ0_length_8abf5 (d + 2) rc rs 0 [some (.ref (1000002 + i))] [] n h Q := by
  have h4 := slen_lt hi
  refine aw_aload_n (npc := 1) rfl dJ0_length_8abf5_0 rfl ?_
  refine aw_sval (npc := 4) (i := i) dJ0_length_8abf5_1 rfl ks_J0_9 (by omega) ?_
  refine aw_sblen (npc := 5) (i := i) (v := nI (am_slen.getD i 0)) dJ0_length_8abf5_4 rfl (by omega) rfl ?_
  refine aw_aload_n (npc := 6) rfl dJ0_length_8abf5_5 rfl ?_
  refine aw_callVS (npc := 9) (N := mJ0_coder_7d493) (i := i) (mc := 0) (ms := 0) (A := []) (S := [.int (nI (am_slen.getD i 0))]) (L0 := [some (.ref (1000002 + i))]) dJ0_length_8abf5_6 rfl km_J0_coder_7d493 kk_J0_335 (by omega) rfl rfl ⟨rfl, by decide⟩ rfl (Nat.le_of_ble_eq_true rfl) (Nat.zero_add _) (Nat.zero_add _) rfl ?_
  refine aw_compact (npc := 3) dJ0_coder_7d493_0 rfl ks_J0_38 ?_
  refine aw_if_eq (npc := 6) (tgt := 13) dJ0_coder_7d493_3 rfl (by decide) (fun hc => absurd hc (by decide)) (fun _ => ?_)
  refine aw_aload_n (npc := 7) rfl dJ0_coder_7d493_6 rfl ?_
  refine aw_scod (npc := 10) (i := i) dJ0_coder_7d493_7 rfl ks_J0_15 (by omega) ?_
  refine aw_goto (npc := 14) dJ0_coder_7d493_10 (by decide) ?_
  refine aw_zret rfl rfl dJ0_coder_7d493_14 ?_
  refine aw_re (S' := [.int 0, .int (nI (am_slen.getD i 0))]) rfl ?_
  refine aw_ishrV (npc := 10) (v := nI (am_slen.getD i 0)) dJ0_length_8abf5_9 rfl (shr0 _) ?_
  refine aw_iret rfl dJ0_length_8abf5_10 ?_
  exact hq
set_option maxHeartbeats 4000000 in
set_option maxRecDepth 100000 in
theorem c_sch {X : List Int32} {d rc rs n : Nat} {Q : am_Q} {h : am_H} {i k : Nat} (hi : i < 6) (hk : k < am_slen.getD i 0) (hq : Q (some (.int (sch i k))) n h) : AW X mJ0_charAt_5068e (d + 6) rc rs 0 [some (.ref (1000002 + i)), some (.int (nI k))] [] n h Q := by
  have h4 := slen_lt hi
  refine aw_aload_n (npc := 1) rfl dJ0_charAt_5068e_0 rfl ?_
  refine aw_callVS (npc := 4) (N := mJ0_isLatin1_aae02) (i := i) (mc := 0) (ms := 0) (A := []) (S := []) (L0 := [some (.ref (1000002 + i))]) dJ0_charAt_5068e_1 rfl km_J0_isLatin1_aae02 kk_J0_492 (by omega) rfl rfl ⟨rfl, by decide⟩ rfl (Nat.le_of_ble_eq_true rfl) (Nat.zero_add _) (Nat.zero_add _) rfl ?_
  refine aw_compact (npc := 3) dJ0_isLatin1_aae02_0 rfl ks_J0_38 ?_
  refine aw_if_eq (npc := 6) (tgt := 17) dJ0_isLatin1_aae02_3 rfl (by decide) (fun hc => absurd hc (by decide)) (fun _ => ?_)
  refine aw_aload_n (npc := 7) rfl dJ0_isLatin1_aae02_6 rfl ?_
  refine aw_scod (npc := 10) (i := i) dJ0_isLatin1_aae02_7 rfl ks_J0_15 (by omega) ?_
  refine aw_if_ne (npc := 13) (tgt := 17) dJ0_isLatin1_aae02_10 rfl (by decide) (fun hc => absurd (by decide) hc) (fun _ => ?_)
  refine aw_iconst (npc := 14) (v := 1) (by decide) dJ0_isLatin1_aae02_13 rfl ?_
  refine aw_goto (npc := 18) dJ0_isLatin1_aae02_14 (by decide) ?_
  refine aw_zret rfl rfl dJ0_isLatin1_aae02_18 ?_
  refine aw_re (S' := [.int 1]) rfl ?_
  refine aw_if_eq (npc := 7) (tgt := 16) dJ0_charAt_5068e_4 rfl (by decide) (fun hc => absurd hc (by decide)) (fun _ => ?_)
  refine aw_aload_n (npc := 8) rfl dJ0_charAt_5068e_7 rfl ?_
  refine aw_sval (npc := 11) (i := i) dJ0_charAt_5068e_8 rfl ks_J0_9 (by omega) ?_
  refine aw_iload_n (npc := 12) rfl dJ0_charAt_5068e_11 rfl ?_
  refine aw_callS (npc := 15) (N := mJ1_charAt_3b067) (mc := 0) (ms := 0) (A := [.ref (1000010 + i), .int (nI k)]) (S := []) (L0 := [some (.ref (1000010 + i)), some (.int (nI k))]) dJ0_charAt_5068e_12 rfl km_J1_charAt_3b067 kk_J0_495 rfl ⟨rfl, by decide⟩ rfl (Nat.le_of_ble_eq_true rfl) (Nat.zero_add _) (Nat.zero_add _) rfl ?_
  refine aw_iload_n (npc := 1) rfl dJ1_charAt_3b067_0 rfl ?_
  refine aw_aload_n (npc := 2) rfl dJ1_charAt_3b067_1 rfl ?_
  refine aw_sblen (npc := 3) (i := i) (v := nI (am_slen.getD i 0)) dJ1_charAt_3b067_2 rfl (by omega) rfl ?_
  refine aw_callS (npc := 6) (N := mJ0_checkIndex_df160) (mc := 0) (ms := 0) (A := [.int (nI k), .int (nI (am_slen.getD i 0))]) (S := []) (L0 := [some (.int (nI k)), some (.int (nI (am_slen.getD i 0)))]) dJ1_charAt_3b067_3 rfl km_J0_checkIndex_df160 kk_J1_9 rfl ⟨rfl, by decide⟩ rfl (Nat.le_of_ble_eq_true rfl) (Nat.zero_add _) (Nat.zero_add _) rfl ?_
  refine aw_iload_n (npc := 1) rfl dJ0_checkIndex_df160_0 rfl ?_
  refine aw_iload_n (npc := 2) rfl dJ0_checkIndex_df160_1 rfl ?_
  refine aw_sioobe (npc := 5) dJ0_checkIndex_df160_2 rfl ks_J0_1053 ?_ ?_
  · refine aw_callS (npc := 8) (N := mJ3_checkIndex_8e157) (mc := 0) (ms := 0) (A := [.int (nI k), .int (nI (am_slen.getD i 0)), .null]) (S := []) (L0 := [some (.int (nI k)), some (.int (nI (am_slen.getD i 0))), some (.null)]) dJ0_checkIndex_df160_5 rfl km_J3_checkIndex_8e157 kk_J0_1059 rfl ⟨rfl, by decide⟩ rfl (Nat.le_of_ble_eq_true rfl) (Nat.zero_add _) (Nat.zero_add _) rfl ?_
    refine aw_iload_n (npc := 1) rfl dJ3_checkIndex_8e157_0 rfl ?_
    refine aw_if_lt (npc := 4) (tgt := 9) dJ3_checkIndex_8e157_1 rfl (by decide) (fun hc => absurd hc (nI_pos (by omega))) (fun _ => ?_)
    refine aw_iload_n (npc := 5) rfl dJ3_checkIndex_8e157_4 rfl ?_
    refine aw_iload_n (npc := 6) rfl dJ3_checkIndex_8e157_5 rfl ?_
    refine aw_icmp_lt (npc := 9) (tgt := 16) dJ3_checkIndex_8e157_6 rfl (by decide) (fun _ => ?_) (fun hc => absurd ((nI_ltI (by omega) (by omega)).mpr hk) hc)
    refine aw_iload_n (npc := 17) rfl dJ3_checkIndex_8e157_16 rfl ?_
    refine aw_iret rfl dJ3_checkIndex_8e157_17 ?_
    refine aw_re (S' := [.int (nI k)]) rfl ?_
    refine aw_pop (npc := 9) rfl dJ0_checkIndex_df160_8 rfl ?_
    refine aw_vret rfl dJ0_checkIndex_df160_9 ?_
    refine aw_aload_n (npc := 7) rfl dJ1_charAt_3b067_6 rfl ?_
    refine aw_iload_n (npc := 8) rfl dJ1_charAt_3b067_7 rfl ?_
    refine aw_sbld (npc := 9) (i := i) (j := k) (x := (am_sbyt.getD i []).getD k 0) dJ1_charAt_3b067_8 rfl (by omega) (am_ix_nI (by omega)) (hk) rfl ?_
    refine aw_sipush (npc := 12) (v := 255) (by decide) dJ1_charAt_3b067_9 rfl ?_
    refine aw_iand (npc := 13) dJ1_charAt_3b067_12 rfl ?_
    refine aw_i2c (npc := 14) dJ1_charAt_3b067_13 rfl ?_
    refine aw_zret rfl (pk_nc _) dJ1_charAt_3b067_14 ?_
    refine aw_re (S' := [.int (((((am_sbyt.getD i []).getD k 0) &&& 255).toUInt32 % 65536).toInt32)]) rfl ?_
    refine aw_zret rfl (pk_nc _) dJ0_charAt_5068e_15 ?_
    exact hq
  · refine aw_callS (npc := 8) (N := mJ3_checkIndex_8e157) (mc := 0) (ms := 0) (A := [.int (nI k), .int (nI (am_slen.getD i 0)), .ref 1000020]) (S := []) (L0 := [some (.int (nI k)), some (.int (nI (am_slen.getD i 0))), some (.ref 1000020)]) dJ0_checkIndex_df160_5 rfl km_J3_checkIndex_8e157 kk_J0_1059 rfl ⟨rfl, by decide⟩ rfl (Nat.le_of_ble_eq_true rfl) (Nat.zero_add _) (Nat.zero_add _) rfl ?_
    refine aw_iload_n (npc := 1) rfl dJ3_checkIndex_8e157_0 rfl ?_
    refine aw_if_lt (npc := 4) (tgt := 9) dJ3_checkIndex_8e157_1 rfl (by decide) (fun hc => absurd hc (nI_pos (by omega))) (fun _ => ?_)
    refine aw_iload_n (npc := 5) rfl dJ3_checkIndex_8e157_4 rfl ?_
    refine aw_iload_n (npc := 6) rfl dJ3_checkIndex_8e157_5 rfl ?_
    refine aw_icmp_lt (npc := 9) (tgt := 16) dJ3_checkIndex_8e157_6 rfl (by decide) (fun _ => ?_) (fun hc => absurd ((nI_ltI (by omega) (by omega)).mpr hk) hc)
    refine aw_iload_n (npc := 17) rfl dJ3_checkIndex_8e157_16 rfl ?_
    refine aw_iret rfl dJ3_checkIndex_8e157_17 ?_
    refine aw_re (S' := [.int (nI k)]) rfl ?_
    refine aw_pop (npc := 9) rfl dJ0_checkIndex_df160_8 rfl ?_
    refine aw_vret rfl dJ0_checkIndex_df160_9 ?_
    refine aw_aload_n (npc := 7) rfl dJ1_charAt_3b067_6 rfl ?_
    refine aw_iload_n (npc := 8) rfl dJ1_charAt_3b067_7 rfl ?_
    refine aw_sbld (npc := 9) (i := i) (j := k) (x := (am_sbyt.getD i []).getD k 0) dJ1_charAt_3b067_8 rfl (by omega) (am_ix_nI (by omega)) (hk) rfl ?_
    refine aw_sipush (npc := 12) (v := 255) (by decide) dJ1_charAt_3b067_9 rfl ?_
    refine aw_iand (npc := 13) dJ1_charAt_3b067_12 rfl ?_
    refine aw_i2c (npc := 14) dJ1_charAt_3b067_13 rfl ?_
    refine aw_zret rfl (pk_nc _) dJ1_charAt_3b067_14 ?_
    refine aw_re (S' := [.int (((((am_sbyt.getD i []).getD k 0) &&& 255).toUInt32 % 65536).toInt32)]) rfl ?_
    refine aw_zret rfl (pk_nc _) dJ0_charAt_5068e_15 ?_
    exact hq
theorem i2b_id {v : Nat} (h : v < 128) : (nI v).toInt8.toInt32 = nI v := by
  apply Int32.toInt_inj.mp
  rw [Int8.toInt_toInt32, Int32.toInt_toInt8, nI_toInt (by omega)]
  exact Int.bmod_eq_of_le (by omega) (by omega)
theorem i2c_id {v : Nat} (h : v < 65536) : ((nI v).toUInt32 % 65536).toInt32 = nI v := by
  rw [pk_char, pk_tn (by omega), Nat.mod_eq_of_lt h]
def nmF (s : Nat) (v : Nat) : Option Nat := if s = 3 then (if 112 = v then some 0 else if 104 = v then some 1 else if 115 = v then some 2 else none) else if s = 4 then (if 108 = v then some 0 else if 112 = v then some 1 else none) else (if 121 = v then some 0 else if 110 = v then some 1 else none)
set_option maxHeartbeats 4000000 in
set_option maxRecDepth 100000 in
theorem c_sidx3 {X : List Int32} {d rc rs n : Nat} {Q : am_Q} {h : am_H} {v : Nat} (hv : v < 128) (hq : Q (some (.int (bI (nmF 3 v)))) n h) : AW X mJ0_indexOf_0f7a4 (d + 6) rc rs 0 [some (.ref (1000002 + 3)), some (.int (nI v))] [] n h Q := by
  refine aw_aload_n (npc := 1) rfl dJ0_indexOf_0f7a4_0 rfl ?_
  refine aw_iload_n (npc := 2) rfl dJ0_indexOf_0f7a4_1 rfl ?_
  refine aw_iconst (npc := 3) (v := 0) (by decide) dJ0_indexOf_0f7a4_2 rfl ?_
  refine aw_callVS (npc := 6) (N := mJ0_indexOf_7cf53) (i := 3) (mc := 0) (ms := 0) (A := [.int (nI v), .int 0]) (S := []) (L0 := [some (.ref (1000002 + 3)), some (.int (nI v)), some (.int 0)]) dJ0_indexOf_0f7a4_3 rfl km_J0_indexOf_7cf53 kk_J0_633 (by omega) rfl rfl ⟨rfl, by decide⟩ rfl (Nat.le_of_ble_eq_true rfl) (Nat.zero_add _) (Nat.zero_add _) rfl ?_
  refine aw_aload_n (npc := 1) rfl dJ0_indexOf_7cf53_0 rfl ?_
  refine aw_callVS (npc := 4) (N := mJ0_isLatin1_aae02) (i := 3) (mc := 0) (ms := 0) (A := []) (S := []) (L0 := [some (.ref (1000002 + 3))]) dJ0_indexOf_7cf53_1 rfl km_J0_isLatin1_aae02 kk_J0_492 (by omega) rfl rfl ⟨rfl, by decide⟩ rfl (Nat.le_of_ble_eq_true rfl) (Nat.zero_add _) (Nat.zero_add _) rfl ?_
  refine aw_compact (npc := 3) dJ0_isLatin1_aae02_0 rfl ks_J0_38 ?_
  refine aw_if_eq (npc := 6) (tgt := 17) dJ0_isLatin1_aae02_3 rfl (by decide) (fun hc => absurd hc (by decide)) (fun _ => ?_)
  refine aw_aload_n (npc := 7) rfl dJ0_isLatin1_aae02_6 rfl ?_
  refine aw_scod (npc := 10) (i := 3) dJ0_isLatin1_aae02_7 rfl ks_J0_15 (by omega) ?_
  refine aw_if_ne (npc := 13) (tgt := 17) dJ0_isLatin1_aae02_10 rfl (by decide) (fun hc => absurd (by decide) hc) (fun _ => ?_)
  refine aw_iconst (npc := 14) (v := 1) (by decide) dJ0_isLatin1_aae02_13 rfl ?_
  refine aw_goto (npc := 18) dJ0_isLatin1_aae02_14 (by decide) ?_
  refine aw_zret rfl rfl dJ0_isLatin1_aae02_18 ?_
  refine aw_re (S' := [.int 1]) rfl ?_
  refine aw_if_eq (npc := 7) (tgt := 23) dJ0_indexOf_7cf53_4 rfl (by decide) (fun hc => absurd hc (by decide)) (fun _ => ?_)
  refine aw_aload_n (npc := 8) rfl dJ0_indexOf_7cf53_7 rfl ?_
  refine aw_sval (npc := 11) (i := 3) dJ0_indexOf_7cf53_8 rfl ks_J0_9 (by omega) ?_
  refine aw_iload_n (npc := 12) rfl dJ0_indexOf_7cf53_11 rfl ?_
  refine aw_iload_n (npc := 13) rfl dJ0_indexOf_7cf53_12 rfl ?_
  refine aw_aload_n (npc := 14) rfl dJ0_indexOf_7cf53_13 rfl ?_
  refine aw_callVS (npc := 17) (N := mJ0_length_8abf5) (i := 3) (mc := 0) (ms := 0) (A := []) (S := [.int 0, .int (nI v), .ref (1000010 + 3)]) (L0 := [some (.ref (1000002 + 3))]) dJ0_indexOf_7cf53_14 rfl km_J0_length_8abf5 kk_J0_505 (by omega) rfl rfl ⟨rfl, by decide⟩ rfl (Nat.le_of_ble_eq_true rfl) (Nat.zero_add _) (Nat.zero_add _) rfl ?_
  refine c_slen (i := 3) (by omega) ?_
  refine aw_re (S' := [.int 3, .int 0, .int (nI v), .ref (1000010 + 3)]) rfl ?_
  refine aw_callS (npc := 20) (N := mJ1_indexOf_4cfef) (mc := 0) (ms := 0) (A := [.ref (1000010 + 3), .int (nI v), .int 0, .int 3]) (S := []) (L0 := [some (.ref (1000010 + 3)), some (.int (nI v)), some (.int 0), some (.int 3)]) dJ0_indexOf_7cf53_17 rfl km_J1_indexOf_4cfef kk_J0_637 rfl ⟨rfl, by decide⟩ rfl (Nat.le_of_ble_eq_true rfl) (Nat.zero_add _) (Nat.zero_add _) rfl ?_
  refine aw_iload_n (npc := 1) rfl dJ1_indexOf_4cfef_0 rfl ?_
  refine aw_callS (npc := 4) (N := mJ1_canEncode_9a6ad) (mc := 0) (ms := 0) (A := [.int (nI v)]) (S := []) (L0 := [some (.int (nI v))]) dJ1_indexOf_4cfef_1 rfl km_J1_canEncode_9a6ad kk_J1_88 rfl ⟨rfl, by decide⟩ rfl (Nat.le_of_ble_eq_true rfl) (Nat.zero_add _) (Nat.zero_add _) rfl ?_
  refine aw_iload_n (npc := 1) rfl dJ1_canEncode_9a6ad_0 rfl ?_
  refine aw_if_lt (npc := 4) (tgt := 15) dJ1_canEncode_9a6ad_1 rfl (by decide) (fun hc => absurd hc (nI_pos (by omega))) (fun _ => ?_)
  refine aw_iload_n (npc := 5) rfl dJ1_canEncode_9a6ad_4 rfl ?_
  refine aw_sipush (npc := 8) (v := 255) (by decide) dJ1_canEncode_9a6ad_5 rfl ?_
  refine aw_icmp_gt (npc := 11) (tgt := 15) dJ1_canEncode_9a6ad_8 rfl (by decide) (fun hc => absurd hc (nI_nlt (a := 255) (b := v) (by omega) (by omega))) (fun _ => ?_)
  refine aw_iconst (npc := 12) (v := 1) (by decide) dJ1_canEncode_9a6ad_11 rfl ?_
  refine aw_goto (npc := 16) dJ1_canEncode_9a6ad_12 (by decide) ?_
  refine aw_zret rfl rfl dJ1_canEncode_9a6ad_16 ?_
  refine aw_re (S' := [.int 1]) rfl ?_
  refine aw_if_ne (npc := 7) (tgt := 9) dJ1_indexOf_4cfef_4 rfl (by decide) (fun _ => ?_) (fun hc => absurd hc (by decide))
  refine aw_iload_n (npc := 10) rfl dJ1_indexOf_4cfef_9 rfl ?_
  refine aw_iconst (npc := 11) (v := 0) (by decide) dJ1_indexOf_4cfef_10 rfl ?_
  refine aw_mmax (npc := 14) dJ1_indexOf_4cfef_11 rfl kmm_J1_92 kmx_max (Nat.le_of_ble_eq_true rfl) ?_
  refine aw_top (y := 0) (by decide) ?_
  refine aw_istore_n (npc := 15) (L' := [some (.ref (1000010 + 3)), some (.int (nI v)), some (.int 0), some (.int 3)]) dJ1_indexOf_4cfef_14 rfl (by decide) rfl rfl ?_
  refine aw_iload_n (npc := 16) rfl dJ1_indexOf_4cfef_15 rfl ?_
  refine aw_aload_n (npc := 17) rfl dJ1_indexOf_4cfef_16 rfl ?_
  refine aw_sblen (npc := 18) (i := 3) (v := nI (am_slen.getD 3 0)) dJ1_indexOf_4cfef_17 rfl (by omega) rfl ?_
  refine aw_top (y := 3) rfl ?_
  refine aw_mmin (npc := 21) dJ1_indexOf_4cfef_18 rfl kmm_J1_38 kmx_min (Nat.le_of_ble_eq_true rfl) ?_
  refine aw_top (y := 3) (by decide) ?_
  refine aw_istore_n (npc := 22) (L' := [some (.ref (1000010 + 3)), some (.int (nI v)), some (.int 0), some (.int 3)]) dJ1_indexOf_4cfef_21 rfl (by decide) rfl rfl ?_
  refine aw_iload_n (npc := 23) rfl dJ1_indexOf_4cfef_22 rfl ?_
  refine aw_iload_n (npc := 24) rfl dJ1_indexOf_4cfef_23 rfl ?_
  refine aw_icmp_lt (npc := 27) (tgt := 29) dJ1_indexOf_4cfef_24 rfl (by decide) (fun _ => ?_) (fun hc => absurd (by decide) hc)
  refine aw_aload_n (npc := 30) rfl dJ1_indexOf_4cfef_29 rfl ?_
  refine aw_iload_n (npc := 31) rfl dJ1_indexOf_4cfef_30 rfl ?_
  refine aw_iload_n (npc := 32) rfl dJ1_indexOf_4cfef_31 rfl ?_
  refine aw_iload_n (npc := 33) rfl dJ1_indexOf_4cfef_32 rfl ?_
  refine aw_callS (npc := 36) (N := mJ1_indexOfChar_4cfef) (mc := 0) (ms := 0) (A := [.ref (1000010 + 3), .int (nI v), .int 0, .int 3]) (S := []) (L0 := [some (.ref (1000010 + 3)), some (.int (nI v)), some (.int 0), some (.int 3), none, none]) dJ1_indexOf_4cfef_33 rfl km_J1_indexOfChar_4cfef kk_J1_95 rfl ⟨rfl, by decide⟩ rfl (Nat.le_of_ble_eq_true rfl) (Nat.zero_add _) (Nat.zero_add _) rfl ?_
  refine aw_iload_n (npc := 1) rfl dJ1_indexOfChar_4cfef_0 rfl ?_
  refine aw_i2b (npc := 2) dJ1_indexOfChar_4cfef_1 rfl ?_
  refine aw_top (y := nI v) (i2b_id (by omega)) ?_
  refine aw_istore (npc := 4) (L' := [some (.ref (1000010 + 3)), some (.int (nI v)), some (.int 0), some (.int 3), some (.int (nI v)), none]) dJ1_indexOfChar_4cfef_2 rfl (by decide) rfl rfl ?_
  refine aw_iload_n (npc := 5) rfl dJ1_indexOfChar_4cfef_4 rfl ?_
  refine aw_istore (npc := 7) (L' := [some (.ref (1000010 + 3)), some (.int (nI v)), some (.int 0), some (.int 3), some (.int (nI v)), some (.int 0)]) dJ1_indexOfChar_4cfef_5 rfl (by decide) rfl rfl ?_
  refine aw_iload (npc := 9) rfl dJ1_indexOfChar_4cfef_7 rfl ?_
  refine aw_iload_n (npc := 10) rfl dJ1_indexOfChar_4cfef_9 rfl ?_
  refine aw_icmp_ge (npc := 13) (tgt := 31) dJ1_indexOfChar_4cfef_10 rfl (by decide) (fun hc => absurd hc (by decide)) (fun _ => ?_)
  refine aw_aload_n (npc := 14) rfl dJ1_indexOfChar_4cfef_13 rfl ?_
  refine aw_iload (npc := 16) rfl dJ1_indexOfChar_4cfef_14 rfl ?_
  refine aw_sbld (npc := 17) (i := 3) (j := 0) (x := (am_sbyt.getD 3 []).getD 0 0) dJ1_indexOfChar_4cfef_16 rfl (by omega) ⟨by decide, by decide⟩ (by decide) rfl ?_
  refine aw_top (y := 112) rfl ?_
  refine aw_iload (npc := 19) rfl dJ1_indexOfChar_4cfef_17 rfl ?_
  refine aw_icmp_ne (npc := 22) (tgt := 25) dJ1_indexOfChar_4cfef_19 rfl (by decide) (fun hc3 => ?_) (fun hc3 => ?_)
  · have hc3N : ¬ 112 = v := fun z9q => hc3 ((nI_eq (a := 112) (b := v) (by omega) (by omega)).mpr z9q)
    refine aw_iinc (npc := 28) (v := 1) (L' := [some (.ref (1000010 + 3)), some (.int (nI v)), some (.int 0), some (.int 3), some (.int (nI v)), some (.int 1)]) dJ1_indexOfChar_4cfef_25 rfl rfl (by decide) (by decide) rfl rfl ?_
    refine aw_goto (npc := 7) dJ1_indexOfChar_4cfef_28 (by decide) ?_
    refine aw_iload (npc := 9) rfl dJ1_indexOfChar_4cfef_7 rfl ?_
    refine aw_iload_n (npc := 10) rfl dJ1_indexOfChar_4cfef_9 rfl ?_
    refine aw_icmp_ge (npc := 13) (tgt := 31) dJ1_indexOfChar_4cfef_10 rfl (by decide) (fun hc => absurd hc (by decide)) (fun _ => ?_)
    refine aw_aload_n (npc := 14) rfl dJ1_indexOfChar_4cfef_13 rfl ?_
    refine aw_iload (npc := 16) rfl dJ1_indexOfChar_4cfef_14 rfl ?_
    refine aw_sbld (npc := 17) (i := 3) (j := 1) (x := (am_sbyt.getD 3 []).getD 1 0) dJ1_indexOfChar_4cfef_16 rfl (by omega) ⟨by decide, by decide⟩ (by decide) rfl ?_
    refine aw_top (y := 104) rfl ?_
    refine aw_iload (npc := 19) rfl dJ1_indexOfChar_4cfef_17 rfl ?_
    refine aw_icmp_ne (npc := 22) (tgt := 25) dJ1_indexOfChar_4cfef_19 rfl (by decide) (fun hc4 => ?_) (fun hc4 => ?_)
    · have hc4N : ¬ 104 = v := fun z9q => hc4 ((nI_eq (a := 104) (b := v) (by omega) (by omega)).mpr z9q)
      refine aw_iinc (npc := 28) (v := 2) (L' := [some (.ref (1000010 + 3)), some (.int (nI v)), some (.int 0), some (.int 3), some (.int (nI v)), some (.int 2)]) dJ1_indexOfChar_4cfef_25 rfl rfl (by decide) (by decide) rfl rfl ?_
      refine aw_goto (npc := 7) dJ1_indexOfChar_4cfef_28 (by decide) ?_
      refine aw_iload (npc := 9) rfl dJ1_indexOfChar_4cfef_7 rfl ?_
      refine aw_iload_n (npc := 10) rfl dJ1_indexOfChar_4cfef_9 rfl ?_
      refine aw_icmp_ge (npc := 13) (tgt := 31) dJ1_indexOfChar_4cfef_10 rfl (by decide) (fun hc => absurd hc (by decide)) (fun _ => ?_)
      refine aw_aload_n (npc := 14) rfl dJ1_indexOfChar_4cfef_13 rfl ?_
      refine aw_iload (npc := 16) rfl dJ1_indexOfChar_4cfef_14 rfl ?_
      refine aw_sbld (npc := 17) (i := 3) (j := 2) (x := (am_sbyt.getD 3 []).getD 2 0) dJ1_indexOfChar_4cfef_16 rfl (by omega) ⟨by decide, by decide⟩ (by decide) rfl ?_
      refine aw_top (y := 115) rfl ?_
      refine aw_iload (npc := 19) rfl dJ1_indexOfChar_4cfef_17 rfl ?_
      refine aw_icmp_ne (npc := 22) (tgt := 25) dJ1_indexOfChar_4cfef_19 rfl (by decide) (fun hc5 => ?_) (fun hc5 => ?_)
      · have hc5N : ¬ 115 = v := fun z9q => hc5 ((nI_eq (a := 115) (b := v) (by omega) (by omega)).mpr z9q)
        refine aw_iinc (npc := 28) (v := 3) (L' := [some (.ref (1000010 + 3)), some (.int (nI v)), some (.int 0), some (.int 3), some (.int (nI v)), some (.int 3)]) dJ1_indexOfChar_4cfef_25 rfl rfl (by decide) (by decide) rfl rfl ?_
        refine aw_goto (npc := 7) dJ1_indexOfChar_4cfef_28 (by decide) ?_
        refine aw_iload (npc := 9) rfl dJ1_indexOfChar_4cfef_7 rfl ?_
        refine aw_iload_n (npc := 10) rfl dJ1_indexOfChar_4cfef_9 rfl ?_
        refine aw_icmp_ge (npc := 13) (tgt := 31) dJ1_indexOfChar_4cfef_10 rfl (by decide) (fun _ => ?_) (fun hc => absurd (by decide) hc)
        refine aw_iconst (npc := 32) (v := -1) (by decide) dJ1_indexOfChar_4cfef_31 rfl ?_
        refine aw_iret rfl dJ1_indexOfChar_4cfef_32 ?_
        refine aw_re (S' := [.int (-1)]) rfl ?_
        refine aw_iret rfl dJ1_indexOf_4cfef_36 ?_
        refine aw_re (S' := [.int (-1)]) rfl ?_
        refine aw_goto (npc := 36) dJ0_indexOf_7cf53_20 (by decide) ?_
        refine aw_iret rfl dJ0_indexOf_7cf53_36 ?_
        refine aw_re (S' := [.int (-1)]) rfl ?_
        refine aw_iret rfl dJ0_indexOf_0f7a4_6 ?_
        exact (show bI (nmF 3 v) = (-1) by simp [nmF, bI, nI0, show nI 1 = 1 from rfl, show nI 2 = 2 from rfl, hc3N, hc4N, hc5N]) ▸ hq
      · have hc5N := (nI_eq (a := 115) (b := v) (by omega) (by omega)).mp hc5
        refine aw_iload (npc := 24) rfl dJ1_indexOfChar_4cfef_22 rfl ?_
        refine aw_iret rfl dJ1_indexOfChar_4cfef_24 ?_
        refine aw_re (S' := [.int 2]) rfl ?_
        refine aw_iret rfl dJ1_indexOf_4cfef_36 ?_
        refine aw_re (S' := [.int 2]) rfl ?_
        refine aw_goto (npc := 36) dJ0_indexOf_7cf53_20 (by decide) ?_
        refine aw_iret rfl dJ0_indexOf_7cf53_36 ?_
        refine aw_re (S' := [.int 2]) rfl ?_
        refine aw_iret rfl dJ0_indexOf_0f7a4_6 ?_
        exact (show bI (nmF 3 v) = 2 by simp [nmF, bI, nI0, show nI 1 = 1 from rfl, show nI 2 = 2 from rfl, hc3N, hc4N, hc5N]) ▸ hq
    · have hc4N := (nI_eq (a := 104) (b := v) (by omega) (by omega)).mp hc4
      refine aw_iload (npc := 24) rfl dJ1_indexOfChar_4cfef_22 rfl ?_
      refine aw_iret rfl dJ1_indexOfChar_4cfef_24 ?_
      refine aw_re (S' := [.int 1]) rfl ?_
      refine aw_iret rfl dJ1_indexOf_4cfef_36 ?_
      refine aw_re (S' := [.int 1]) rfl ?_
      refine aw_goto (npc := 36) dJ0_indexOf_7cf53_20 (by decide) ?_
      refine aw_iret rfl dJ0_indexOf_7cf53_36 ?_
      refine aw_re (S' := [.int 1]) rfl ?_
      refine aw_iret rfl dJ0_indexOf_0f7a4_6 ?_
      exact (show bI (nmF 3 v) = 1 by simp [nmF, bI, nI0, show nI 1 = 1 from rfl, show nI 2 = 2 from rfl, hc3N, hc4N]) ▸ hq
  · have hc3N := (nI_eq (a := 112) (b := v) (by omega) (by omega)).mp hc3
    refine aw_iload (npc := 24) rfl dJ1_indexOfChar_4cfef_22 rfl ?_
    refine aw_iret rfl dJ1_indexOfChar_4cfef_24 ?_
    refine aw_re (S' := [.int 0]) rfl ?_
    refine aw_iret rfl dJ1_indexOf_4cfef_36 ?_
    refine aw_re (S' := [.int 0]) rfl ?_
    refine aw_goto (npc := 36) dJ0_indexOf_7cf53_20 (by decide) ?_
    refine aw_iret rfl dJ0_indexOf_7cf53_36 ?_
    refine aw_re (S' := [.int 0]) rfl ?_
    refine aw_iret rfl dJ0_indexOf_0f7a4_6 ?_
    exact (show bI (nmF 3 v) = 0 by simp [nmF, bI, nI0, show nI 1 = 1 from rfl, show nI 2 = 2 from rfl, hc3N]) ▸ hq
set_option maxHeartbeats 4000000 in
set_option maxRecDepth 100000 in
theorem c_sidx4 {X : List Int32} {d rc rs n : Nat} {Q : am_Q} {h : am_H} {v : Nat} (hv : v < 128) (hq : Q (some (.int (bI (nmF 4 v)))) n h) : AW X mJ0_indexOf_0f7a4 (d + 6) rc rs 0 [some (.ref (1000002 + 4)), some (.int (nI v))] [] n h Q := by
  refine aw_aload_n (npc := 1) rfl dJ0_indexOf_0f7a4_0 rfl ?_
  refine aw_iload_n (npc := 2) rfl dJ0_indexOf_0f7a4_1 rfl ?_
  refine aw_iconst (npc := 3) (v := 0) (by decide) dJ0_indexOf_0f7a4_2 rfl ?_
  refine aw_callVS (npc := 6) (N := mJ0_indexOf_7cf53) (i := 4) (mc := 0) (ms := 0) (A := [.int (nI v), .int 0]) (S := []) (L0 := [some (.ref (1000002 + 4)), some (.int (nI v)), some (.int 0)]) dJ0_indexOf_0f7a4_3 rfl km_J0_indexOf_7cf53 kk_J0_633 (by omega) rfl rfl ⟨rfl, by decide⟩ rfl (Nat.le_of_ble_eq_true rfl) (Nat.zero_add _) (Nat.zero_add _) rfl ?_
  refine aw_aload_n (npc := 1) rfl dJ0_indexOf_7cf53_0 rfl ?_
  refine aw_callVS (npc := 4) (N := mJ0_isLatin1_aae02) (i := 4) (mc := 0) (ms := 0) (A := []) (S := []) (L0 := [some (.ref (1000002 + 4))]) dJ0_indexOf_7cf53_1 rfl km_J0_isLatin1_aae02 kk_J0_492 (by omega) rfl rfl ⟨rfl, by decide⟩ rfl (Nat.le_of_ble_eq_true rfl) (Nat.zero_add _) (Nat.zero_add _) rfl ?_
  refine aw_compact (npc := 3) dJ0_isLatin1_aae02_0 rfl ks_J0_38 ?_
  refine aw_if_eq (npc := 6) (tgt := 17) dJ0_isLatin1_aae02_3 rfl (by decide) (fun hc => absurd hc (by decide)) (fun _ => ?_)
  refine aw_aload_n (npc := 7) rfl dJ0_isLatin1_aae02_6 rfl ?_
  refine aw_scod (npc := 10) (i := 4) dJ0_isLatin1_aae02_7 rfl ks_J0_15 (by omega) ?_
  refine aw_if_ne (npc := 13) (tgt := 17) dJ0_isLatin1_aae02_10 rfl (by decide) (fun hc => absurd (by decide) hc) (fun _ => ?_)
  refine aw_iconst (npc := 14) (v := 1) (by decide) dJ0_isLatin1_aae02_13 rfl ?_
  refine aw_goto (npc := 18) dJ0_isLatin1_aae02_14 (by decide) ?_
  refine aw_zret rfl rfl dJ0_isLatin1_aae02_18 ?_
  refine aw_re (S' := [.int 1]) rfl ?_
  refine aw_if_eq (npc := 7) (tgt := 23) dJ0_indexOf_7cf53_4 rfl (by decide) (fun hc => absurd hc (by decide)) (fun _ => ?_)
  refine aw_aload_n (npc := 8) rfl dJ0_indexOf_7cf53_7 rfl ?_
  refine aw_sval (npc := 11) (i := 4) dJ0_indexOf_7cf53_8 rfl ks_J0_9 (by omega) ?_
  refine aw_iload_n (npc := 12) rfl dJ0_indexOf_7cf53_11 rfl ?_
  refine aw_iload_n (npc := 13) rfl dJ0_indexOf_7cf53_12 rfl ?_
  refine aw_aload_n (npc := 14) rfl dJ0_indexOf_7cf53_13 rfl ?_
  refine aw_callVS (npc := 17) (N := mJ0_length_8abf5) (i := 4) (mc := 0) (ms := 0) (A := []) (S := [.int 0, .int (nI v), .ref (1000010 + 4)]) (L0 := [some (.ref (1000002 + 4))]) dJ0_indexOf_7cf53_14 rfl km_J0_length_8abf5 kk_J0_505 (by omega) rfl rfl ⟨rfl, by decide⟩ rfl (Nat.le_of_ble_eq_true rfl) (Nat.zero_add _) (Nat.zero_add _) rfl ?_
  refine c_slen (i := 4) (by omega) ?_
  refine aw_re (S' := [.int 2, .int 0, .int (nI v), .ref (1000010 + 4)]) rfl ?_
  refine aw_callS (npc := 20) (N := mJ1_indexOf_4cfef) (mc := 0) (ms := 0) (A := [.ref (1000010 + 4), .int (nI v), .int 0, .int 2]) (S := []) (L0 := [some (.ref (1000010 + 4)), some (.int (nI v)), some (.int 0), some (.int 2)]) dJ0_indexOf_7cf53_17 rfl km_J1_indexOf_4cfef kk_J0_637 rfl ⟨rfl, by decide⟩ rfl (Nat.le_of_ble_eq_true rfl) (Nat.zero_add _) (Nat.zero_add _) rfl ?_
  refine aw_iload_n (npc := 1) rfl dJ1_indexOf_4cfef_0 rfl ?_
  refine aw_callS (npc := 4) (N := mJ1_canEncode_9a6ad) (mc := 0) (ms := 0) (A := [.int (nI v)]) (S := []) (L0 := [some (.int (nI v))]) dJ1_indexOf_4cfef_1 rfl km_J1_canEncode_9a6ad kk_J1_88 rfl ⟨rfl, by decide⟩ rfl (Nat.le_of_ble_eq_true rfl) (Nat.zero_add _) (Nat.zero_add _) rfl ?_
  refine aw_iload_n (npc := 1) rfl dJ1_canEncode_9a6ad_0 rfl ?_
  refine aw_if_lt (npc := 4) (tgt := 15) dJ1_canEncode_9a6ad_1 rfl (by decide) (fun hc => absurd hc (nI_pos (by omega))) (fun _ => ?_)
  refine aw_iload_n (npc := 5) rfl dJ1_canEncode_9a6ad_4 rfl ?_
  refine aw_sipush (npc := 8) (v := 255) (by decide) dJ1_canEncode_9a6ad_5 rfl ?_
  refine aw_icmp_gt (npc := 11) (tgt := 15) dJ1_canEncode_9a6ad_8 rfl (by decide) (fun hc => absurd hc (nI_nlt (a := 255) (b := v) (by omega) (by omega))) (fun _ => ?_)
  refine aw_iconst (npc := 12) (v := 1) (by decide) dJ1_canEncode_9a6ad_11 rfl ?_
  refine aw_goto (npc := 16) dJ1_canEncode_9a6ad_12 (by decide) ?_
  refine aw_zret rfl rfl dJ1_canEncode_9a6ad_16 ?_
  refine aw_re (S' := [.int 1]) rfl ?_
  refine aw_if_ne (npc := 7) (tgt := 9) dJ1_indexOf_4cfef_4 rfl (by decide) (fun _ => ?_) (fun hc => absurd hc (by decide))
  refine aw_iload_n (npc := 10) rfl dJ1_indexOf_4cfef_9 rfl ?_
  refine aw_iconst (npc := 11) (v := 0) (by decide) dJ1_indexOf_4cfef_10 rfl ?_
  refine aw_mmax (npc := 14) dJ1_indexOf_4cfef_11 rfl kmm_J1_92 kmx_max (Nat.le_of_ble_eq_true rfl) ?_
  refine aw_top (y := 0) (by decide) ?_
  refine aw_istore_n (npc := 15) (L' := [some (.ref (1000010 + 4)), some (.int (nI v)), some (.int 0), some (.int 2)]) dJ1_indexOf_4cfef_14 rfl (by decide) rfl rfl ?_
  refine aw_iload_n (npc := 16) rfl dJ1_indexOf_4cfef_15 rfl ?_
  refine aw_aload_n (npc := 17) rfl dJ1_indexOf_4cfef_16 rfl ?_
  refine aw_sblen (npc := 18) (i := 4) (v := nI (am_slen.getD 4 0)) dJ1_indexOf_4cfef_17 rfl (by omega) rfl ?_
  refine aw_top (y := 2) rfl ?_
  refine aw_mmin (npc := 21) dJ1_indexOf_4cfef_18 rfl kmm_J1_38 kmx_min (Nat.le_of_ble_eq_true rfl) ?_
  refine aw_top (y := 2) (by decide) ?_
  refine aw_istore_n (npc := 22) (L' := [some (.ref (1000010 + 4)), some (.int (nI v)), some (.int 0), some (.int 2)]) dJ1_indexOf_4cfef_21 rfl (by decide) rfl rfl ?_
  refine aw_iload_n (npc := 23) rfl dJ1_indexOf_4cfef_22 rfl ?_
  refine aw_iload_n (npc := 24) rfl dJ1_indexOf_4cfef_23 rfl ?_
  refine aw_icmp_lt (npc := 27) (tgt := 29) dJ1_indexOf_4cfef_24 rfl (by decide) (fun _ => ?_) (fun hc => absurd (by decide) hc)
  refine aw_aload_n (npc := 30) rfl dJ1_indexOf_4cfef_29 rfl ?_
  refine aw_iload_n (npc := 31) rfl dJ1_indexOf_4cfef_30 rfl ?_
  refine aw_iload_n (npc := 32) rfl dJ1_indexOf_4cfef_31 rfl ?_
  refine aw_iload_n (npc := 33) rfl dJ1_indexOf_4cfef_32 rfl ?_
  refine aw_callS (npc := 36) (N := mJ1_indexOfChar_4cfef) (mc := 0) (ms := 0) (A := [.ref (1000010 + 4), .int (nI v), .int 0, .int 2]) (S := []) (L0 := [some (.ref (1000010 + 4)), some (.int (nI v)), some (.int 0), some (.int 2), none, none]) dJ1_indexOf_4cfef_33 rfl km_J1_indexOfChar_4cfef kk_J1_95 rfl ⟨rfl, by decide⟩ rfl (Nat.le_of_ble_eq_true rfl) (Nat.zero_add _) (Nat.zero_add _) rfl ?_
  refine aw_iload_n (npc := 1) rfl dJ1_indexOfChar_4cfef_0 rfl ?_
  refine aw_i2b (npc := 2) dJ1_indexOfChar_4cfef_1 rfl ?_
  refine aw_top (y := nI v) (i2b_id (by omega)) ?_
  refine aw_istore (npc := 4) (L' := [some (.ref (1000010 + 4)), some (.int (nI v)), some (.int 0), some (.int 2), some (.int (nI v)), none]) dJ1_indexOfChar_4cfef_2 rfl (by decide) rfl rfl ?_
  refine aw_iload_n (npc := 5) rfl dJ1_indexOfChar_4cfef_4 rfl ?_
  refine aw_istore (npc := 7) (L' := [some (.ref (1000010 + 4)), some (.int (nI v)), some (.int 0), some (.int 2), some (.int (nI v)), some (.int 0)]) dJ1_indexOfChar_4cfef_5 rfl (by decide) rfl rfl ?_
  refine aw_iload (npc := 9) rfl dJ1_indexOfChar_4cfef_7 rfl ?_
  refine aw_iload_n (npc := 10) rfl dJ1_indexOfChar_4cfef_9 rfl ?_
  refine aw_icmp_ge (npc := 13) (tgt := 31) dJ1_indexOfChar_4cfef_10 rfl (by decide) (fun hc => absurd hc (by decide)) (fun _ => ?_)
  refine aw_aload_n (npc := 14) rfl dJ1_indexOfChar_4cfef_13 rfl ?_
  refine aw_iload (npc := 16) rfl dJ1_indexOfChar_4cfef_14 rfl ?_
  refine aw_sbld (npc := 17) (i := 4) (j := 0) (x := (am_sbyt.getD 4 []).getD 0 0) dJ1_indexOfChar_4cfef_16 rfl (by omega) ⟨by decide, by decide⟩ (by decide) rfl ?_
  refine aw_top (y := 108) rfl ?_
  refine aw_iload (npc := 19) rfl dJ1_indexOfChar_4cfef_17 rfl ?_
  refine aw_icmp_ne (npc := 22) (tgt := 25) dJ1_indexOfChar_4cfef_19 rfl (by decide) (fun hc3 => ?_) (fun hc3 => ?_)
  · have hc3N : ¬ 108 = v := fun z9q => hc3 ((nI_eq (a := 108) (b := v) (by omega) (by omega)).mpr z9q)
    refine aw_iinc (npc := 28) (v := 1) (L' := [some (.ref (1000010 + 4)), some (.int (nI v)), some (.int 0), some (.int 2), some (.int (nI v)), some (.int 1)]) dJ1_indexOfChar_4cfef_25 rfl rfl (by decide) (by decide) rfl rfl ?_
    refine aw_goto (npc := 7) dJ1_indexOfChar_4cfef_28 (by decide) ?_
    refine aw_iload (npc := 9) rfl dJ1_indexOfChar_4cfef_7 rfl ?_
    refine aw_iload_n (npc := 10) rfl dJ1_indexOfChar_4cfef_9 rfl ?_
    refine aw_icmp_ge (npc := 13) (tgt := 31) dJ1_indexOfChar_4cfef_10 rfl (by decide) (fun hc => absurd hc (by decide)) (fun _ => ?_)
    refine aw_aload_n (npc := 14) rfl dJ1_indexOfChar_4cfef_13 rfl ?_
    refine aw_iload (npc := 16) rfl dJ1_indexOfChar_4cfef_14 rfl ?_
    refine aw_sbld (npc := 17) (i := 4) (j := 1) (x := (am_sbyt.getD 4 []).getD 1 0) dJ1_indexOfChar_4cfef_16 rfl (by omega) ⟨by decide, by decide⟩ (by decide) rfl ?_
    refine aw_top (y := 112) rfl ?_
    refine aw_iload (npc := 19) rfl dJ1_indexOfChar_4cfef_17 rfl ?_
    refine aw_icmp_ne (npc := 22) (tgt := 25) dJ1_indexOfChar_4cfef_19 rfl (by decide) (fun hc4 => ?_) (fun hc4 => ?_)
    · have hc4N : ¬ 112 = v := fun z9q => hc4 ((nI_eq (a := 112) (b := v) (by omega) (by omega)).mpr z9q)
      refine aw_iinc (npc := 28) (v := 2) (L' := [some (.ref (1000010 + 4)), some (.int (nI v)), some (.int 0), some (.int 2), some (.int (nI v)), some (.int 2)]) dJ1_indexOfChar_4cfef_25 rfl rfl (by decide) (by decide) rfl rfl ?_
      refine aw_goto (npc := 7) dJ1_indexOfChar_4cfef_28 (by decide) ?_
      refine aw_iload (npc := 9) rfl dJ1_indexOfChar_4cfef_7 rfl ?_
      refine aw_iload_n (npc := 10) rfl dJ1_indexOfChar_4cfef_9 rfl ?_
      refine aw_icmp_ge (npc := 13) (tgt := 31) dJ1_indexOfChar_4cfef_10 rfl (by decide) (fun _ => ?_) (fun hc => absurd (by decide) hc)
      refine aw_iconst (npc := 32) (v := -1) (by decide) dJ1_indexOfChar_4cfef_31 rfl ?_
      refine aw_iret rfl dJ1_indexOfChar_4cfef_32 ?_
      refine aw_re (S' := [.int (-1)]) rfl ?_
      refine aw_iret rfl dJ1_indexOf_4cfef_36 ?_
      refine aw_re (S' := [.int (-1)]) rfl ?_
      refine aw_goto (npc := 36) dJ0_indexOf_7cf53_20 (by decide) ?_
      refine aw_iret rfl dJ0_indexOf_7cf53_36 ?_
      refine aw_re (S' := [.int (-1)]) rfl ?_
      refine aw_iret rfl dJ0_indexOf_0f7a4_6 ?_
      exact (show bI (nmF 4 v) = (-1) by simp [nmF, bI, nI0, show nI 1 = 1 from rfl, show nI 2 = 2 from rfl, hc3N, hc4N]) ▸ hq
    · have hc4N := (nI_eq (a := 112) (b := v) (by omega) (by omega)).mp hc4
      refine aw_iload (npc := 24) rfl dJ1_indexOfChar_4cfef_22 rfl ?_
      refine aw_iret rfl dJ1_indexOfChar_4cfef_24 ?_
      refine aw_re (S' := [.int 1]) rfl ?_
      refine aw_iret rfl dJ1_indexOf_4cfef_36 ?_
      refine aw_re (S' := [.int 1]) rfl ?_
      refine aw_goto (npc := 36) dJ0_indexOf_7cf53_20 (by decide) ?_
      refine aw_iret rfl dJ0_indexOf_7cf53_36 ?_
      refine aw_re (S' := [.int 1]) rfl ?_
      refine aw_iret rfl dJ0_indexOf_0f7a4_6 ?_
      exact (show bI (nmF 4 v) = 1 by simp [nmF, bI, nI0, show nI 1 = 1 from rfl, show nI 2 = 2 from rfl, hc3N, hc4N]) ▸ hq
  · have hc3N := (nI_eq (a := 108) (b := v) (by omega) (by omega)).mp hc3
    refine aw_iload (npc := 24) rfl dJ1_indexOfChar_4cfef_22 rfl ?_
    refine aw_iret rfl dJ1_indexOfChar_4cfef_24 ?_
    refine aw_re (S' := [.int 0]) rfl ?_
    refine aw_iret rfl dJ1_indexOf_4cfef_36 ?_
    refine aw_re (S' := [.int 0]) rfl ?_
    refine aw_goto (npc := 36) dJ0_indexOf_7cf53_20 (by decide) ?_
    refine aw_iret rfl dJ0_indexOf_7cf53_36 ?_
    refine aw_re (S' := [.int 0]) rfl ?_
    refine aw_iret rfl dJ0_indexOf_0f7a4_6 ?_
    exact (show bI (nmF 4 v) = 0 by simp [nmF, bI, nI0, show nI 1 = 1 from rfl, show nI 2 = 2 from rfl, hc3N]) ▸ hq
set_option maxHeartbeats 4000000 in
set_option maxRecDepth 100000 in
theorem c_sidx5 {X : List Int32} {d rc rs n : Nat} {Q : am_Q} {h : am_H} {v : Nat} (hv : v < 128) (hq : Q (some (.int (bI (nmF 5 v)))) n h) : AW X mJ0_indexOf_0f7a4 (d + 6) rc rs 0 [some (.ref (1000002 + 5)), some (.int (nI v))] [] n h Q := by
  refine aw_aload_n (npc := 1) rfl dJ0_indexOf_0f7a4_0 rfl ?_
  refine aw_iload_n (npc := 2) rfl dJ0_indexOf_0f7a4_1 rfl ?_
  refine aw_iconst (npc := 3) (v := 0) (by decide) dJ0_indexOf_0f7a4_2 rfl ?_
  refine aw_callVS (npc := 6) (N := mJ0_indexOf_7cf53) (i := 5) (mc := 0) (ms := 0) (A := [.int (nI v), .int 0]) (S := []) (L0 := [some (.ref (1000002 + 5)), some (.int (nI v)), some (.int 0)]) dJ0_indexOf_0f7a4_3 rfl km_J0_indexOf_7cf53 kk_J0_633 (by omega) rfl rfl ⟨rfl, by decide⟩ rfl (Nat.le_of_ble_eq_true rfl) (Nat.zero_add _) (Nat.zero_add _) rfl ?_
  refine aw_aload_n (npc := 1) rfl dJ0_indexOf_7cf53_0 rfl ?_
  refine aw_callVS (npc := 4) (N := mJ0_isLatin1_aae02) (i := 5) (mc := 0) (ms := 0) (A := []) (S := []) (L0 := [some (.ref (1000002 + 5))]) dJ0_indexOf_7cf53_1 rfl km_J0_isLatin1_aae02 kk_J0_492 (by omega) rfl rfl ⟨rfl, by decide⟩ rfl (Nat.le_of_ble_eq_true rfl) (Nat.zero_add _) (Nat.zero_add _) rfl ?_
  refine aw_compact (npc := 3) dJ0_isLatin1_aae02_0 rfl ks_J0_38 ?_
  refine aw_if_eq (npc := 6) (tgt := 17) dJ0_isLatin1_aae02_3 rfl (by decide) (fun hc => absurd hc (by decide)) (fun _ => ?_)
  refine aw_aload_n (npc := 7) rfl dJ0_isLatin1_aae02_6 rfl ?_
  refine aw_scod (npc := 10) (i := 5) dJ0_isLatin1_aae02_7 rfl ks_J0_15 (by omega) ?_
  refine aw_if_ne (npc := 13) (tgt := 17) dJ0_isLatin1_aae02_10 rfl (by decide) (fun hc => absurd (by decide) hc) (fun _ => ?_)
  refine aw_iconst (npc := 14) (v := 1) (by decide) dJ0_isLatin1_aae02_13 rfl ?_
  refine aw_goto (npc := 18) dJ0_isLatin1_aae02_14 (by decide) ?_
  refine aw_zret rfl rfl dJ0_isLatin1_aae02_18 ?_
  refine aw_re (S' := [.int 1]) rfl ?_
  refine aw_if_eq (npc := 7) (tgt := 23) dJ0_indexOf_7cf53_4 rfl (by decide) (fun hc => absurd hc (by decide)) (fun _ => ?_)
  refine aw_aload_n (npc := 8) rfl dJ0_indexOf_7cf53_7 rfl ?_
  refine aw_sval (npc := 11) (i := 5) dJ0_indexOf_7cf53_8 rfl ks_J0_9 (by omega) ?_
  refine aw_iload_n (npc := 12) rfl dJ0_indexOf_7cf53_11 rfl ?_
  refine aw_iload_n (npc := 13) rfl dJ0_indexOf_7cf53_12 rfl ?_
  refine aw_aload_n (npc := 14) rfl dJ0_indexOf_7cf53_13 rfl ?_
  refine aw_callVS (npc := 17) (N := mJ0_length_8abf5) (i := 5) (mc := 0) (ms := 0) (A := []) (S := [.int 0, .int (nI v), .ref (1000010 + 5)]) (L0 := [some (.ref (1000002 + 5))]) dJ0_indexOf_7cf53_14 rfl km_J0_length_8abf5 kk_J0_505 (by omega) rfl rfl ⟨rfl, by decide⟩ rfl (Nat.le_of_ble_eq_true rfl) (Nat.zero_add _) (Nat.zero_add _) rfl ?_
  refine c_slen (i := 5) (by omega) ?_
  refine aw_re (S' := [.int 2, .int 0, .int (nI v), .ref (1000010 + 5)]) rfl ?_
  refine aw_callS (npc := 20) (N := mJ1_indexOf_4cfef) (mc := 0) (ms := 0) (A := [.ref (1000010 + 5), .int (nI v), .int 0, .int 2]) (S := []) (L0 := [some (.ref (1000010 + 5)), some (.int (nI v)), some (.int 0), some (.int 2)]) dJ0_indexOf_7cf53_17 rfl km_J1_indexOf_4cfef kk_J0_637 rfl ⟨rfl, by decide⟩ rfl (Nat.le_of_ble_eq_true rfl) (Nat.zero_add _) (Nat.zero_add _) rfl ?_
  refine aw_iload_n (npc := 1) rfl dJ1_indexOf_4cfef_0 rfl ?_
  refine aw_callS (npc := 4) (N := mJ1_canEncode_9a6ad) (mc := 0) (ms := 0) (A := [.int (nI v)]) (S := []) (L0 := [some (.int (nI v))]) dJ1_indexOf_4cfef_1 rfl km_J1_canEncode_9a6ad kk_J1_88 rfl ⟨rfl, by decide⟩ rfl (Nat.le_of_ble_eq_true rfl) (Nat.zero_add _) (Nat.zero_add _) rfl ?_
  refine aw_iload_n (npc := 1) rfl dJ1_canEncode_9a6ad_0 rfl ?_
  refine aw_if_lt (npc := 4) (tgt := 15) dJ1_canEncode_9a6ad_1 rfl (by decide) (fun hc => absurd hc (nI_pos (by omega))) (fun _ => ?_)
  refine aw_iload_n (npc := 5) rfl dJ1_canEncode_9a6ad_4 rfl ?_
  refine aw_sipush (npc := 8) (v := 255) (by decide) dJ1_canEncode_9a6ad_5 rfl ?_
  refine aw_icmp_gt (npc := 11) (tgt := 15) dJ1_canEncode_9a6ad_8 rfl (by decide) (fun hc => absurd hc (nI_nlt (a := 255) (b := v) (by omega) (by omega))) (fun _ => ?_)
  refine aw_iconst (npc := 12) (v := 1) (by decide) dJ1_canEncode_9a6ad_11 rfl ?_
  refine aw_goto (npc := 16) dJ1_canEncode_9a6ad_12 (by decide) ?_
  refine aw_zret rfl rfl dJ1_canEncode_9a6ad_16 ?_
  refine aw_re (S' := [.int 1]) rfl ?_
  refine aw_if_ne (npc := 7) (tgt := 9) dJ1_indexOf_4cfef_4 rfl (by decide) (fun _ => ?_) (fun hc => absurd hc (by decide))
  refine aw_iload_n (npc := 10) rfl dJ1_indexOf_4cfef_9 rfl ?_
  refine aw_iconst (npc := 11) (v := 0) (by decide) dJ1_indexOf_4cfef_10 rfl ?_
  refine aw_mmax (npc := 14) dJ1_indexOf_4cfef_11 rfl kmm_J1_92 kmx_max (Nat.le_of_ble_eq_true rfl) ?_
  refine aw_top (y := 0) (by decide) ?_
  refine aw_istore_n (npc := 15) (L' := [some (.ref (1000010 + 5)), some (.int (nI v)), some (.int 0), some (.int 2)]) dJ1_indexOf_4cfef_14 rfl (by decide) rfl rfl ?_
  refine aw_iload_n (npc := 16) rfl dJ1_indexOf_4cfef_15 rfl ?_
  refine aw_aload_n (npc := 17) rfl dJ1_indexOf_4cfef_16 rfl ?_
  refine aw_sblen (npc := 18) (i := 5) (v := nI (am_slen.getD 5 0)) dJ1_indexOf_4cfef_17 rfl (by omega) rfl ?_
  refine aw_top (y := 2) rfl ?_
  refine aw_mmin (npc := 21) dJ1_indexOf_4cfef_18 rfl kmm_J1_38 kmx_min (Nat.le_of_ble_eq_true rfl) ?_
  refine aw_top (y := 2) (by decide) ?_
  refine aw_istore_n (npc := 22) (L' := [some (.ref (1000010 + 5)), some (.int (nI v)), some (.int 0), some (.int 2)]) dJ1_indexOf_4cfef_21 rfl (by decide) rfl rfl ?_
  refine aw_iload_n (npc := 23) rfl dJ1_indexOf_4cfef_22 rfl ?_
  refine aw_iload_n (npc := 24) rfl dJ1_indexOf_4cfef_23 rfl ?_
  refine aw_icmp_lt (npc := 27) (tgt := 29) dJ1_indexOf_4cfef_24 rfl (by decide) (fun _ => ?_) (fun hc => absurd (by decide) hc)
  refine aw_aload_n (npc := 30) rfl dJ1_indexOf_4cfef_29 rfl ?_
  refine aw_iload_n (npc := 31) rfl dJ1_indexOf_4cfef_30 rfl ?_
  refine aw_iload_n (npc := 32) rfl dJ1_indexOf_4cfef_31 rfl ?_
  refine aw_iload_n (npc := 33) rfl dJ1_indexOf_4cfef_32 rfl ?_
  refine aw_callS (npc := 36) (N := mJ1_indexOfChar_4cfef) (mc := 0) (ms := 0) (A := [.ref (1000010 + 5), .int (nI v), .int 0, .int 2]) (S := []) (L0 := [some (.ref (1000010 + 5)), some (.int (nI v)), some (.int 0), some (.int 2), none, none]) dJ1_indexOf_4cfef_33 rfl km_J1_indexOfChar_4cfef kk_J1_95 rfl ⟨rfl, by decide⟩ rfl (Nat.le_of_ble_eq_true rfl) (Nat.zero_add _) (Nat.zero_add _) rfl ?_
  refine aw_iload_n (npc := 1) rfl dJ1_indexOfChar_4cfef_0 rfl ?_
  refine aw_i2b (npc := 2) dJ1_indexOfChar_4cfef_1 rfl ?_
  refine aw_top (y := nI v) (i2b_id (by omega)) ?_
  refine aw_istore (npc := 4) (L' := [some (.ref (1000010 + 5)), some (.int (nI v)), some (.int 0), some (.int 2), some (.int (nI v)), none]) dJ1_indexOfChar_4cfef_2 rfl (by decide) rfl rfl ?_
  refine aw_iload_n (npc := 5) rfl dJ1_indexOfChar_4cfef_4 rfl ?_
  refine aw_istore (npc := 7) (L' := [some (.ref (1000010 + 5)), some (.int (nI v)), some (.int 0), some (.int 2), some (.int (nI v)), some (.int 0)]) dJ1_indexOfChar_4cfef_5 rfl (by decide) rfl rfl ?_
  refine aw_iload (npc := 9) rfl dJ1_indexOfChar_4cfef_7 rfl ?_
  refine aw_iload_n (npc := 10) rfl dJ1_indexOfChar_4cfef_9 rfl ?_
  refine aw_icmp_ge (npc := 13) (tgt := 31) dJ1_indexOfChar_4cfef_10 rfl (by decide) (fun hc => absurd hc (by decide)) (fun _ => ?_)
  refine aw_aload_n (npc := 14) rfl dJ1_indexOfChar_4cfef_13 rfl ?_
  refine aw_iload (npc := 16) rfl dJ1_indexOfChar_4cfef_14 rfl ?_
  refine aw_sbld (npc := 17) (i := 5) (j := 0) (x := (am_sbyt.getD 5 []).getD 0 0) dJ1_indexOfChar_4cfef_16 rfl (by omega) ⟨by decide, by decide⟩ (by decide) rfl ?_
  refine aw_top (y := 121) rfl ?_
  refine aw_iload (npc := 19) rfl dJ1_indexOfChar_4cfef_17 rfl ?_
  refine aw_icmp_ne (npc := 22) (tgt := 25) dJ1_indexOfChar_4cfef_19 rfl (by decide) (fun hc3 => ?_) (fun hc3 => ?_)
  · have hc3N : ¬ 121 = v := fun z9q => hc3 ((nI_eq (a := 121) (b := v) (by omega) (by omega)).mpr z9q)
    refine aw_iinc (npc := 28) (v := 1) (L' := [some (.ref (1000010 + 5)), some (.int (nI v)), some (.int 0), some (.int 2), some (.int (nI v)), some (.int 1)]) dJ1_indexOfChar_4cfef_25 rfl rfl (by decide) (by decide) rfl rfl ?_
    refine aw_goto (npc := 7) dJ1_indexOfChar_4cfef_28 (by decide) ?_
    refine aw_iload (npc := 9) rfl dJ1_indexOfChar_4cfef_7 rfl ?_
    refine aw_iload_n (npc := 10) rfl dJ1_indexOfChar_4cfef_9 rfl ?_
    refine aw_icmp_ge (npc := 13) (tgt := 31) dJ1_indexOfChar_4cfef_10 rfl (by decide) (fun hc => absurd hc (by decide)) (fun _ => ?_)
    refine aw_aload_n (npc := 14) rfl dJ1_indexOfChar_4cfef_13 rfl ?_
    refine aw_iload (npc := 16) rfl dJ1_indexOfChar_4cfef_14 rfl ?_
    refine aw_sbld (npc := 17) (i := 5) (j := 1) (x := (am_sbyt.getD 5 []).getD 1 0) dJ1_indexOfChar_4cfef_16 rfl (by omega) ⟨by decide, by decide⟩ (by decide) rfl ?_
    refine aw_top (y := 110) rfl ?_
    refine aw_iload (npc := 19) rfl dJ1_indexOfChar_4cfef_17 rfl ?_
    refine aw_icmp_ne (npc := 22) (tgt := 25) dJ1_indexOfChar_4cfef_19 rfl (by decide) (fun hc4 => ?_) (fun hc4 => ?_)
    · have hc4N : ¬ 110 = v := fun z9q => hc4 ((nI_eq (a := 110) (b := v) (by omega) (by omega)).mpr z9q)
      refine aw_iinc (npc := 28) (v := 2) (L' := [some (.ref (1000010 + 5)), some (.int (nI v)), some (.int 0), some (.int 2), some (.int (nI v)), some (.int 2)]) dJ1_indexOfChar_4cfef_25 rfl rfl (by decide) (by decide) rfl rfl ?_
      refine aw_goto (npc := 7) dJ1_indexOfChar_4cfef_28 (by decide) ?_
      refine aw_iload (npc := 9) rfl dJ1_indexOfChar_4cfef_7 rfl ?_
      refine aw_iload_n (npc := 10) rfl dJ1_indexOfChar_4cfef_9 rfl ?_
      refine aw_icmp_ge (npc := 13) (tgt := 31) dJ1_indexOfChar_4cfef_10 rfl (by decide) (fun _ => ?_) (fun hc => absurd (by decide) hc)
      refine aw_iconst (npc := 32) (v := -1) (by decide) dJ1_indexOfChar_4cfef_31 rfl ?_
      refine aw_iret rfl dJ1_indexOfChar_4cfef_32 ?_
      refine aw_re (S' := [.int (-1)]) rfl ?_
      refine aw_iret rfl dJ1_indexOf_4cfef_36 ?_
      refine aw_re (S' := [.int (-1)]) rfl ?_
      refine aw_goto (npc := 36) dJ0_indexOf_7cf53_20 (by decide) ?_
      refine aw_iret rfl dJ0_indexOf_7cf53_36 ?_
      refine aw_re (S' := [.int (-1)]) rfl ?_
      refine aw_iret rfl dJ0_indexOf_0f7a4_6 ?_
      exact (show bI (nmF 5 v) = (-1) by simp [nmF, bI, nI0, show nI 1 = 1 from rfl, show nI 2 = 2 from rfl, hc3N, hc4N]) ▸ hq
    · have hc4N := (nI_eq (a := 110) (b := v) (by omega) (by omega)).mp hc4
      refine aw_iload (npc := 24) rfl dJ1_indexOfChar_4cfef_22 rfl ?_
      refine aw_iret rfl dJ1_indexOfChar_4cfef_24 ?_
      refine aw_re (S' := [.int 1]) rfl ?_
      refine aw_iret rfl dJ1_indexOf_4cfef_36 ?_
      refine aw_re (S' := [.int 1]) rfl ?_
      refine aw_goto (npc := 36) dJ0_indexOf_7cf53_20 (by decide) ?_
      refine aw_iret rfl dJ0_indexOf_7cf53_36 ?_
      refine aw_re (S' := [.int 1]) rfl ?_
      refine aw_iret rfl dJ0_indexOf_0f7a4_6 ?_
      exact (show bI (nmF 5 v) = 1 by simp [nmF, bI, nI0, show nI 1 = 1 from rfl, show nI 2 = 2 from rfl, hc3N, hc4N]) ▸ hq
  · have hc3N := (nI_eq (a := 121) (b := v) (by omega) (by omega)).mp hc3
    refine aw_iload (npc := 24) rfl dJ1_indexOfChar_4cfef_22 rfl ?_
    refine aw_iret rfl dJ1_indexOfChar_4cfef_24 ?_
    refine aw_re (S' := [.int 0]) rfl ?_
    refine aw_iret rfl dJ1_indexOf_4cfef_36 ?_
    refine aw_re (S' := [.int 0]) rfl ?_
    refine aw_goto (npc := 36) dJ0_indexOf_7cf53_20 (by decide) ?_
    refine aw_iret rfl dJ0_indexOf_7cf53_36 ?_
    refine aw_re (S' := [.int 0]) rfl ?_
    refine aw_iret rfl dJ0_indexOf_0f7a4_6 ?_
    exact (show bI (nmF 5 v) = 0 by simp [nmF, bI, nI0, show nI 1 = 1 from rfl, show nI 2 = 2 from rfl, hc3N]) ▸ hq
