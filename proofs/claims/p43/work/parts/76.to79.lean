theorem shr0 (x : Int32) : x >>> ((0 : Int32) &&& 31) = x := by
  rw [show (0 : Int32) &&& 31 = 0 by decide]; exact Int32.shiftRight_zero
def sch (i k : Nat) : Int32 := (((am_sbyt.getD i []).getD k 0 &&& 255).toUInt32 % 65536).toInt32
theorem slen_lt {i : Nat} (hi : i < 6) : am_slen.getD i 0 ≤ 4 := by
  rcases (show i = 0 ∨ i = 1 ∨ i = 2 ∨ i = 3 ∨ i = 4 ∨ i = 5 by omega) with rfl | rfl | rfl | rfl | rfl | rfl <;> decide
set_option maxHeartbeats 4000000 in
set_option maxRecDepth 100000 in
theorem c_slen {X : List Int32} {d rc rs n : Nat} {Q : am_Q} {h : am_H} {i : Nat} (hi : i < 6) (hq : Q (some (.int (nI (am_slen.getD i 0)))) n h) : AW X mJ0_length_8abf5 (d + 2) rc rs 0 [some (.ref (1000002 + i))] [] n h Q := by
  have h4 := slen_lt hi
  refine aw_aload_n (npc := 1) rfl dJ0_length_8abf5_0 rfl ?_
  refine aw_sval (npc := 4) (i := i) dJ0_length_8abf5_1 rfl ks_J0_9 (by omega) ?_
  refine aw_sblen (npc := 5) (i := i) (v := nI (am_slen.getD i 0)) dJ0_length_8abf5_4 rfl (by omega) rfl ?_
  refine aw_aload_n (npc := 6) rfl dJ0_length_8abf5_5 rfl ?_
  refine aw_callVS (npc := 9) (N := mJ0_coder_7d493) (i := i) (mc := 0) (ms := 0) (A := []) (S := [.int (nI (am_slen.getD i 0))]) (L0 := [some (.ref (1000002 + i))]) dJ0_length_8abf5_6 rfl km_J0_coder_7d493 kk_J0_335 (by omega) rfl rfl ⟨rfl, by decide⟩ rfl (Nat.le_of_ble_eq_true rfl) (Nat.zero_add _) (Nat.zero_add _) rfl ?_
  refine aw_compact (npc := 3) dJ0_coder_7d493_0 rfl ks_J0_38 ?_
  refine aw_if_eq (npc := 6) (tgt := 13) dJ0_coder_7d493_3 rfl (by decide) (fun hc => absurd hc (by decide)) (fun _ => ?_)
  refine aw_aload_n (npc := 7) rfl dJ0_coder_7d493_6 rfl ?_
  refine aw_scod (npc := 10) (i := i) dJ0_coder_7d493_7 rfl ks_J0_15 (by omega) ?_
  refine aw_goto (npc := 14) dJ0_coder_7d493_10 (by decide) ?_
  refine aw_zret rfl rfl dJ0_coder_7d493_14 ?_
  refine aw_re (S' := [.int 0, .int (nI (am_slen.getD i 0))]) rfl ?_
  refine aw_ishrV (npc := 10) (v := nI (am_slen.getD i 0)) dJ0_length_8abf5_9 rfl (shr0 _) ?_
  refine aw_iret rfl dJ0_length_8abf5_10 ?_
  exact hq
set_option maxHeartbeats 4000000 in
set_option maxRecDepth 100000 in
theorem c_sch {X : List Int32} {d rc rs n : Nat} {Q : am_Q} {h : am_H} {i k : Nat} (hi : i < 6) (hk : k < am_slen.getD i 0) (hq : Q (some (.int (sch i k))) n h) : AW X mJ0_charAt_5068e (d + 6) rc rs 0 [some (.ref (1000002 + i)), some (.int (nI k))] [] n h Q := by
  have h4 := slen_lt hi
  refine aw_aload_n (npc := 1) rfl dJ0_charAt_5068e_0 rfl ?_
  refine aw_callVS (npc := 4) (N := mJ0_isLatin1_aae02) (i := i) (mc := 0) (ms := 0) (A := []) (S := []) (L0 := [some (.ref (1000002 + i))]) dJ0_charAt_5068e_1 rfl km_J0_isLatin1_aae02 kk_J0_492 (by omega) rfl rfl ⟨rfl, by decide⟩ rfl (Nat.le_of_ble_eq_true rfl) (Nat.zero_add _) (Nat.zero_add _) rfl ?_
  refine aw_compact (npc := 3) dJ0_isLatin1_aae02_0 rfl ks_J0_38 ?_
  refine aw_if_eq (npc := 6) (tgt := 17) dJ0_isLatin1_aae02_3 rfl (by decide) (fun hc => absurd hc (by decide)) (fun _ => ?_)
  refine aw_aload_n (npc := 7) rfl dJ0_isLatin1_aae02_6 rfl ?_
  refine aw_scod (npc := 10) (i := i) dJ0_isLatin1_aae02_7 rfl ks_J0_15 (by omega) ?_
  refine aw_if_ne (npc := 13) (tgt := 17) dJ0_isLatin1_aae02_10 rfl (by decide) (fun hc => absurd (by decide) hc) (fun _ => ?_)
  refine aw_iconst (npc := 14) (v := 1) (by decide) dJ0_isLatin1_aae02_13 rfl ?_
  refine aw_goto (npc := 18) dJ0_isLatin1_aae02_14 (by decide) ?_
  refine aw_zret rfl rfl dJ0_isLatin1_aae02_18 ?_
  refine aw_re (S' := [.int 1]) rfl ?_
  refine aw_if_eq (npc := 7) (tgt := 16) dJ0_charAt_5068e_4 rfl (by decide) (fun hc => absurd hc (by decide)) (fun _ => ?_)
  refine aw_aload_n (npc := 8) rfl dJ0_charAt_5068e_7 rfl ?_
  refine aw_sval (npc := 11) (i := i) dJ0_charAt_5068e_8 rfl ks_J0_9 (by omega) ?_
  refine aw_iload_n (npc := 12) rfl dJ0_charAt_5068e_11 rfl ?_
  refine aw_callS (npc := 15) (N := mJ1_charAt_3b067) (mc := 0) (ms := 0) (A := [.ref (1000010 + i), .int (nI k)]) (S := []) (L0 := [some (.ref (1000010 + i)), some (.int (nI k))]) dJ0_charAt_5068e_12 rfl km_J1_charAt_3b067 kk_J0_495 rfl ⟨rfl, by decide⟩ rfl (Nat.le_of_ble_eq_true rfl) (Nat.zero_add _) (Nat.zero_add _) rfl ?_
  refine aw_iload_n (npc := 1) rfl dJ1_charAt_3b067_0 rfl ?_
  refine aw_aload_n (npc := 2) rfl dJ1_charAt_3b067_1 rfl ?_
  refine aw_sblen (npc := 3) (i := i) (v := nI (am_slen.getD i 0)) dJ1_charAt_3b067_2 rfl (by omega) rfl ?_
  refine aw_callS (npc := 6) (N := mJ0_checkIndex_df160) (mc := 0) (ms := 0) (A := [.int (nI k), .int (nI (am_slen.getD i 0))]) (S := []) (L0 := [some (.int (nI k)), some (.int (nI (am_slen.getD i 0)))]) dJ1_charAt_3b067_3 rfl km_J0_checkIndex_df160 kk_J1_9 rfl ⟨rfl, by decide⟩ rfl (Nat.le_of_ble_eq_true rfl) (Nat.zero_add _) (Nat.zero_add _) rfl ?_
  refine aw_iload_n (npc := 1) rfl dJ0_checkIndex_df160_0 rfl ?_
  refine aw_iload_n (npc := 2) rfl dJ0_checkIndex_df160_1 rfl ?_
  refine aw_sioobe (npc := 5) dJ0_checkIndex_df160_2 rfl ks_J0_1053 ?_ ?_
  · refine aw_callS (npc := 8) (N := mJ3_checkIndex_8e157) (mc := 0) (ms := 0) (A := [.int (nI k), .int (nI (am_slen.getD i 0)), .null]) (S := []) (L0 := [some (.int (nI k)), some (.int (nI (am_slen.getD i 0))), some (.null)]) dJ0_checkIndex_df160_5 rfl km_J3_checkIndex_8e157 kk_J0_1059 rfl ⟨rfl, by decide⟩ rfl (Nat.le_of_ble_eq_true rfl) (Nat.zero_add _) (Nat.zero_add _) rfl ?_
    refine aw_iload_n (npc := 1) rfl dJ3_checkIndex_8e157_0 rfl ?_
    refine aw_if_lt (npc := 4) (tgt := 9) dJ3_checkIndex_8e157_1 rfl (by decide) (fun hc => absurd hc (nI_pos (by omega))) (fun _ => ?_)
    refine aw_iload_n (npc := 5) rfl dJ3_checkIndex_8e157_4 rfl ?_
    refine aw_iload_n (npc := 6) rfl dJ3_checkIndex_8e157_5 rfl ?_
    refine aw_icmp_lt (npc := 9) (tgt := 16) dJ3_checkIndex_8e157_6 rfl (by decide) (fun _ => ?_) (fun hc => absurd ((nI_ltI (by omega) (by omega)).mpr hk) hc)
    refine aw_iload_n (npc := 17) rfl dJ3_checkIndex_8e157_16 rfl ?_
    refine aw_iret rfl dJ3_checkIndex_8e157_17 ?_
    refine aw_re (S' := [.int (nI k)]) rfl ?_
    refine aw_pop (npc := 9) rfl dJ0_checkIndex_df160_8 rfl ?_
    refine aw_vret rfl dJ0_checkIndex_df160_9 ?_
    refine aw_aload_n (npc := 7) rfl dJ1_charAt_3b067_6 rfl ?_
    refine aw_iload_n (npc := 8) rfl dJ1_charAt_3b067_7 rfl ?_
    refine aw_sbld (npc := 9) (i := i) (j := k) (x := (am_sbyt.getD i []).getD k 0) dJ1_charAt_3b067_8 rfl (by omega) (am_ix_nI (by omega)) (hk) rfl ?_
    refine aw_sipush (npc := 12) (v := 255) (by decide) dJ1_charAt_3b067_9 rfl ?_
    refine aw_iand (npc := 13) dJ1_charAt_3b067_12 rfl ?_
    refine aw_i2c (npc := 14) dJ1_charAt_3b067_13 rfl ?_
    refine aw_zret rfl (pk_nc _) dJ1_charAt_3b067_14 ?_
    refine aw_re (S' := [.int (((((am_sbyt.getD i []).getD k 0) &&& 255).toUInt32 % 65536).toInt32)]) rfl ?_
    refine aw_zret rfl (pk_nc _) dJ0_charAt_5068e_15 ?_
    exact hq
  · refine aw_callS (npc := 8) (N := mJ3_checkIndex_8e157) (mc := 0) (ms := 0) (A := [.int (nI k), .int (nI (am_slen.getD i 0)), .ref 1000020]) (S := []) (L0 := [some (.int (nI k)), some (.int (nI (am_slen.getD i 0))), some (.ref 1000020)]) dJ0_checkIndex_df160_5 rfl km_J3_checkIndex_8e157 kk_J0_1059 rfl ⟨rfl, by decide⟩ rfl (Nat.le_of_ble_eq_true rfl) (Nat.zero_add _) (Nat.zero_add _) rfl ?_
    refine aw_iload_n (npc := 1) rfl dJ3_checkIndex_8e157_0 rfl ?_
    refine aw_if_lt (npc := 4) (tgt := 9) dJ3_checkIndex_8e157_1 rfl (by decide) (fun hc => absurd hc (nI_pos (by omega))) (fun _ => ?_)
    refine aw_iload_n (npc := 5) rfl dJ3_checkIndex_8e157_4 rfl ?_
    refine aw_iload_n (npc := 6) rfl dJ3_checkIndex_8e157_5 rfl ?_
    refine aw_icmp_lt (npc := 9) (tgt := 16) dJ3_checkIndex_8e157_6 rfl (by decide) (fun _ => ?_) (fun hc => absurd ((nI_ltI (by omega) (by omega)).mpr hk) hc)
    refine aw_iload_n (npc := 17) rfl dJ3_checkIndex_8e157_16 rfl ?_
    refine aw_iret rfl dJ3_checkIndex_8e157_17 ?_
    refine aw_re (S' := [.int (nI k)]) rfl ?_
    refine aw_pop (npc := 9) rfl dJ0_checkIndex_df160_8 rfl ?_
    refine aw_vret rfl dJ0_checkIndex_df160_9 ?_
    refine aw_aload_n (npc := 7) rfl dJ1_charAt_3b067_6 rfl ?_
    refine aw_iload_n (npc := 8) rfl dJ1_charAt_3b067_7 rfl ?_
    refine aw_sbld (npc := 9) (i := i) (j := k) (x := (am_sbyt.getD i []).getD k 0) dJ1_charAt_3b067_8 rfl (by omega) (am_ix_nI (by omega)) (hk) rfl ?_
    refine aw_sipush (npc := 12) (v := 255) (by decide) dJ1_charAt_3b067_9 rfl ?_
    refine aw_iand (npc := 13) dJ1_charAt_3b067_12 rfl ?_
    refine aw_i2c (npc := 14) dJ1_charAt_3b067_13 rfl ?_
    refine aw_zret rfl (pk_nc _) dJ1_charAt_3b067_14 ?_
    refine aw_re (S' := [.int (((((am_sbyt.getD i []).getD k 0) &&& 255).toUInt32 % 65536).toInt32)]) rfl ?_
    refine aw_zret rfl (pk_nc _) dJ0_charAt_5068e_15 ?_
    exact hq
theorem i2b_id {v : Nat} (h : v < 128) : (nI v).toInt8.toInt32 = nI v := by
  apply Int32.toInt_inj.mp
  rw [Int8.toInt_toInt32, Int32.toInt_toInt8, nI_toInt (by omega)]
  exact Int.bmod_eq_of_le (by omega) (by omega)
theorem i2c_id {v : Nat} (h : v < 65536) : ((nI v).toUInt32 % 65536).toInt32 = nI v := by
  rw [pk_char, pk_tn (by omega), Nat.mod_eq_of_lt h]
def nmF (s : Nat) (v : Nat) : Option Nat := if s = 3 then (if 112 = v then some 0 else if 104 = v then some 1 else if 115 = v then some 2 else none) else if s = 4 then (if 108 = v then some 0 else if 112 = v then some 1 else none) else (if 121 = v then some 0 else if 110 = v then some 1 else none)
set_option maxHeartbeats 4000000 in
set_option maxRecDepth 100000 in
theorem c_sidx3 {X : List Int32} {d rc rs n : Nat} {Q : am_Q} {h : am_H} {v : Nat} (hv : v < 128) (hq : Q (some (.int (bI (nmF 3 v)))) n h) : AW X mJ0_indexOf_0f7a4 (d + 6) rc rs 0 [some (.ref (1000002 + 3)), some (.int (nI v))] [] n h Q := by
  refine aw_aload_n (npc := 1) rfl dJ0_indexOf_0f7a4_0 rfl ?_
  refine aw_iload_n (npc := 2) rfl dJ0_indexOf_0f7a4_1 rfl ?_
  refine aw_iconst (npc := 3) (v := 0) (by decide) dJ0_indexOf_0f7a4_2 rfl ?_
  refine aw_callVS (npc := 6) (N := mJ0_indexOf_7cf53) (i := 3) (mc := 0) (ms := 0) (A := [.int (nI v), .int 0]) (S := []) (L0 := [some (.ref (1000002 + 3)), some (.int (nI v)), some (.int 0)]) dJ0_indexOf_0f7a4_3 rfl km_J0_indexOf_7cf53 kk_J0_633 (by omega) rfl rfl ⟨rfl, by decide⟩ rfl (Nat.le_of_ble_eq_true rfl) (Nat.zero_add _) (Nat.zero_add _) rfl ?_
  refine aw_aload_n (npc := 1) rfl dJ0_indexOf_7cf53_0 rfl ?_
  refine aw_callVS (npc := 4) (N := mJ0_isLatin1_aae02) (i := 3) (mc := 0) (ms := 0) (A := []) (S := []) (L0 := [some (.ref (1000002 + 3))]) dJ0_indexOf_7cf53_1 rfl km_J0_isLatin1_aae02 kk_J0_492 (by omega) rfl rfl ⟨rfl, by decide⟩ rfl (Nat.le_of_ble_eq_true rfl) (Nat.zero_add _) (Nat.zero_add _) rfl ?_
  refine aw_compact (npc := 3) dJ0_isLatin1_aae02_0 rfl ks_J0_38 ?_
  refine aw_if_eq (npc := 6) (tgt := 17) dJ0_isLatin1_aae02_3 rfl (by decide) (fun hc => absurd hc (by decide)) (fun _ => ?_)
  refine aw_aload_n (npc := 7) rfl dJ0_isLatin1_aae02_6 rfl ?_
  refine aw_scod (npc := 10) (i := 3) dJ0_isLatin1_aae02_7 rfl ks_J0_15 (by omega) ?_
  refine aw_if_ne (npc := 13) (tgt := 17) dJ0_isLatin1_aae02_10 rfl (by decide) (fun hc => absurd (by decide) hc) (fun _ => ?_)
  refine aw_iconst (npc := 14) (v := 1) (by decide) dJ0_isLatin1_aae02_13 rfl ?_
  refine aw_goto (npc := 18) dJ0_isLatin1_aae02_14 (by decide) ?_
  refine aw_zret rfl rfl dJ0_isLatin1_aae02_18 ?_
  refine aw_re (S' := [.int 1]) rfl ?_
  refine aw_if_eq (npc := 7) (tgt := 23) dJ0_indexOf_7cf53_4 rfl (by decide) (fun hc => absurd hc (by decide)) (fun _ => ?_)
  refine aw_aload_n (npc := 8) rfl dJ0_indexOf_7cf53_7 rfl ?_
  refine aw_sval (npc := 11) (i := 3) dJ0_indexOf_7cf53_8 rfl ks_J0_9 (by omega) ?_
  refine aw_iload_n (npc := 12) rfl dJ0_indexOf_7cf53_11 rfl ?_
  refine aw_iload_n (npc := 13) rfl dJ0_indexOf_7cf53_12 rfl ?_
  refine aw_aload_n (npc := 14) rfl dJ0_indexOf_7cf53_13 rfl ?_
  refine aw_callVS (npc := 17) (N := mJ0_length_8abf5) (i := 3) (mc := 0) (ms := 0) (A := []) (S := [.int 0, .int (nI v), .ref (1000010 + 3)]) (L0 := [some (.ref (1000002 + 3))]) dJ0_indexOf_7cf53_14 rfl km_J0_length_8abf5 kk_J0_505 (by omega) rfl rfl ⟨rfl, by decide⟩ rfl (Nat.le_of_ble_eq_true rfl) (Nat.zero_add _) (Nat.zero_add _) rfl ?_
  refine c_slen (i := 3) (by omega) ?_
  refine aw_re (S' := [.int 3, .int 0, .int (nI v), .ref (1000010 + 3)]) rfl ?_
  refine aw_callS (npc := 20) (N := mJ1_indexOf_4cfef) (mc := 0) (ms := 0) (A := [.ref (1000010 + 3), .int (nI v), .int 0, .int 3]) (S := []) (L0 := [some (.ref (1000010 + 3)), some (.int (nI v)), some (.int 0), some (.int 3)]) dJ0_indexOf_7cf53_17 rfl km_J1_indexOf_4cfef kk_J0_637 rfl ⟨rfl, by decide⟩ rfl (Nat.le_of_ble_eq_true rfl) (Nat.zero_add _) (Nat.zero_add _) rfl ?_
  refine aw_iload_n (npc := 1) rfl dJ1_indexOf_4cfef_0 rfl ?_
  refine aw_callS (npc := 4) (N := mJ1_canEncode_9a6ad) (mc := 0) (ms := 0) (A := [.int (nI v)]) (S := []) (L0 := [some (.int (nI v))]) dJ1_indexOf_4cfef_1 rfl km_J1_canEncode_9a6ad kk_J1_88 rfl ⟨rfl, by decide⟩ rfl (Nat.le_of_ble_eq_true rfl) (Nat.zero_add _) (Nat.zero_add _) rfl ?_
  refine aw_iload_n (npc := 1) rfl dJ1_canEncode_9a6ad_0 rfl ?_
  refine aw_if_lt (npc := 4) (tgt := 15) dJ1_canEncode_9a6ad_1 rfl (by decide) (fun hc => absurd hc (nI_pos (by omega))) (fun _ => ?_)
  refine aw_iload_n (npc := 5) rfl dJ1_canEncode_9a6ad_4 rfl ?_
  refine aw_sipush (npc := 8) (v := 255) (by decide) dJ1_canEncode_9a6ad_5 rfl ?_
  refine aw_icmp_gt (npc := 11) (tgt := 15) dJ1_canEncode_9a6ad_8 rfl (by decide) (fun hc => absurd hc (nI_nlt (a := 255) (b := v) (by omega) (by omega))) (fun _ => ?_)
  refine aw_iconst (npc := 12) (v := 1) (by decide) dJ1_canEncode_9a6ad_11 rfl ?_
  refine aw_goto (npc := 16) dJ1_canEncode_9a6ad_12 (by decide) ?_
  refine aw_zret rfl rfl dJ1_canEncode_9a6ad_16 ?_
  refine aw_re (S' := [.int 1]) rfl ?_
  refine aw_if_ne (npc := 7) (tgt := 9) dJ1_indexOf_4cfef_4 rfl (by decide) (fun _ => ?_) (fun hc => absurd hc (by decide))
  refine aw_iload_n (npc := 10) rfl dJ1_indexOf_4cfef_9 rfl ?_
  refine aw_iconst (npc := 11) (v := 0) (by decide) dJ1_indexOf_4cfef_10 rfl ?_
  refine aw_mmax (npc := 14) dJ1_indexOf_4cfef_11 rfl kmm_J1_92 kmx_max (Nat.le_of_ble_eq_true rfl) ?_
  refine aw_top (y := 0) (by decide) ?_
  refine aw_istore_n (npc := 15) (L' := [some (.ref (1000010 + 3)), some (.int (nI v)), some (.int 0), some (.int 3)]) dJ1_indexOf_4cfef_14 rfl (by decide) rfl rfl ?_
  refine aw_iload_n (npc := 16) rfl dJ1_indexOf_4cfef_15 rfl ?_
  refine aw_aload_n (npc := 17) rfl dJ1_indexOf_4cfef_16 rfl ?_
  refine aw_sblen (npc := 18) (i := 3) (v := nI (am_slen.getD 3 0)) dJ1_indexOf_4cfef_17 rfl (by omega) rfl ?_
  refine aw_top (y := 3) rfl ?_
  refine aw_mmin (npc := 21) dJ1_indexOf_4cfef_18 rfl kmm_J1_38 kmx_min (Nat.le_of_ble_eq_true rfl) ?_
  refine aw_top (y := 3) (by decide) ?_
  refine aw_istore_n (npc := 22) (L' := [some (.ref (1000010 + 3)), some (.int (nI v)), some (.int 0), some (.int 3)]) dJ1_indexOf_4cfef_21 rfl (by decide) rfl rfl ?_
  refine aw_iload_n (npc := 23) rfl dJ1_indexOf_4cfef_22 rfl ?_
  refine aw_iload_n (npc := 24) rfl dJ1_indexOf_4cfef_23 rfl ?_
  refine aw_icmp_lt (npc := 27) (tgt := 29) dJ1_indexOf_4cfef_24 rfl (by decide) (fun _ => ?_) (fun hc => absurd (by decide) hc)
  refine aw_aload_n (npc := 30) rfl dJ1_indexOf_4cfef_29 rfl ?_
  refine aw_iload_n (npc := 31) rfl dJ1_indexOf_4cfef_30 rfl ?_
  refine aw_iload_n (npc := 32) rfl dJ1_indexOf_4cfef_31 rfl ?_
  refine aw_iload_n (npc := 33) rfl dJ1_indexOf_4cfef_32 rfl ?_
  refine aw_callS (npc := 36) (N := mJ1_indexOfChar_4cfef) (mc := 0) (ms := 0) (A := [.ref (1000010 + 3), .int (nI v), .int 0, .int 3]) (S := []) (L0 := [some (.ref (1000010 + 3)), some (.int (nI v)), some (.int 0), some (.int 3), none, none]) dJ1_indexOf_4cfef_33 rfl km_J1_indexOfChar_4cfef kk_J1_95 rfl ⟨rfl, by decide⟩ rfl (Nat.le_of_ble_eq_true rfl) (Nat.zero_add _) (Nat.zero_add _) rfl ?_
  refine aw_iload_n (npc := 1) rfl dJ1_indexOfChar_4cfef_0 rfl ?_
  refine aw_i2b (npc := 2) dJ1_indexOfChar_4cfef_1 rfl ?_
  refine aw_top (y := nI v) (i2b_id (by omega)) ?_
  refine aw_istore (npc := 4) (L' := [some (.ref (1000010 + 3)), some (.int (nI v)), some (.int 0), some (.int 3), some (.int (nI v)), none]) dJ1_indexOfChar_4cfef_2 rfl (by decide) rfl rfl ?_
  refine aw_iload_n (npc := 5) rfl dJ1_indexOfChar_4cfef_4 rfl ?_
  refine aw_istore (npc := 7) (L' := [some (.ref (1000010 + 3)), some (.int (nI v)), some (.int 0), some (.int 3), some (.int (nI v)), some (.int 0)]) dJ1_indexOfChar_4cfef_5 rfl (by decide) rfl rfl ?_
  refine aw_iload (npc := 9) rfl dJ1_indexOfChar_4cfef_7 rfl ?_
  refine aw_iload_n (npc := 10) rfl dJ1_indexOfChar_4cfef_9 rfl ?_
  refine aw_icmp_ge (npc := 13) (tgt := 31) dJ1_indexOfChar_4cfef_10 rfl (by decide) (fun hc => absurd hc (by decide)) (fun _ => ?_)
  refine aw_aload_n (npc := 14) rfl dJ1_indexOfChar_4cfef_13 rfl ?_
  refine aw_iload (npc := 16) rfl dJ1_indexOfChar_4cfef_14 rfl ?_
  refine aw_sbld (npc := 17) (i := 3) (j := 0) (x := (am_sbyt.getD 3 []).getD 0 0) dJ1_indexOfChar_4cfef_16 rfl (by omega) ⟨by decide, by decide⟩ (by decide) rfl ?_
  refine aw_top (y := 112) rfl ?_
  refine aw_iload (npc := 19) rfl dJ1_indexOfChar_4cfef_17 rfl ?_
  refine aw_icmp_ne (npc := 22) (tgt := 25) dJ1_indexOfChar_4cfef_19 rfl (by decide) (fun hc3 => ?_) (fun hc3 => ?_)
  · have hc3N : ¬ 112 = v := fun z9q => hc3 ((nI_eq (a := 112) (b := v) (by omega) (by omega)).mpr z9q)
    refine aw_iinc (npc := 28) (v := 1) (L' := [some (.ref (1000010 + 3)), some (.int (nI v)), some (.int 0), some (.int 3), some (.int (nI v)), some (.int 1)]) dJ1_indexOfChar_4cfef_25 rfl rfl (by decide) (by decide) rfl rfl ?_
    refine aw_goto (npc := 7) dJ1_indexOfChar_4cfef_28 (by decide) ?_
    refine aw_iload (npc := 9) rfl dJ1_indexOfChar_4cfef_7 rfl ?_
    refine aw_iload_n (npc := 10) rfl dJ1_indexOfChar_4cfef_9 rfl ?_
    refine aw_icmp_ge (npc := 13) (tgt := 31) dJ1_indexOfChar_4cfef_10 rfl (by decide) (fun hc => absurd hc (by decide)) (fun _ => ?_)
    refine aw_aload_n (npc := 14) rfl dJ1_indexOfChar_4cfef_13 rfl ?_
    refine aw_iload (npc := 16) rfl dJ1_indexOfChar_4cfef_14 rfl ?_
    refine aw_sbld (npc := 17) (i := 3) (j := 1) (x := (am_sbyt.getD 3 []).getD 1 0) dJ1_indexOfChar_4cfef_16 rfl (by omega) ⟨by decide, by decide⟩ (by decide) rfl ?_
    refine aw_top (y := 104) rfl ?_
    refine aw_iload (npc := 19) rfl dJ1_indexOfChar_4cfef_17 rfl ?_
    refine aw_icmp_ne (npc := 22) (tgt := 25) dJ1_indexOfChar_4cfef_19 rfl (by decide) (fun hc4 => ?_) (fun hc4 => ?_)
    · have hc4N : ¬ 104 = v := fun z9q => hc4 ((nI_eq (a := 104) (b := v) (by omega) (by omega)).mpr z9q)
      refine aw_iinc (npc := 28) (v := 2) (L' := [some (.ref (1000010 + 3)), some (.int (nI v)), some (.int 0), some (.int 3), some (.int (nI v)), some (.int 2)]) dJ1_indexOfChar_4cfef_25 rfl rfl (by decide) (by decide) rfl rfl ?_
      refine aw_goto (npc := 7) dJ1_indexOfChar_4cfef_28 (by decide) ?_
      refine aw_iload (npc := 9) rfl dJ1_indexOfChar_4cfef_7 rfl ?_
      refine aw_iload_n (npc := 10) rfl dJ1_indexOfChar_4cfef_9 rfl ?_
      refine aw_icmp_ge (npc := 13) (tgt := 31) dJ1_indexOfChar_4cfef_10 rfl (by decide) (fun hc => absurd hc (by decide)) (fun _ => ?_)
      refine aw_aload_n (npc := 14) rfl dJ1_indexOfChar_4cfef_13 rfl ?_
      refine aw_iload (npc := 16) rfl dJ1_indexOfChar_4cfef_14 rfl ?_
      refine aw_sbld (npc := 17) (i := 3) (j := 2) (x := (am_sbyt.getD 3 []).getD 2 0) dJ1_indexOfChar_4cfef_16 rfl (by omega) ⟨by decide, by decide⟩ (by decide) rfl ?_
      refine aw_top (y := 115) rfl ?_
      refine aw_iload (npc := 19) rfl dJ1_indexOfChar_4cfef_17 rfl ?_
      refine aw_icmp_ne (npc := 22) (tgt := 25) dJ1_indexOfChar_4cfef_19 rfl (by decide) (fun hc5 => ?_) (fun hc5 => ?_)
      · have hc5N : ¬ 115 = v := fun z9q => hc5 ((nI_eq (a := 115) (b := v) (by omega) (by omega)).mpr z9q)
        refine aw_iinc (npc := 28) (v := 3) (L' := [some (.ref (1000010 + 3)), some (.int (nI v)), some (.int 0), some (.int 3), some (.int (nI v)), some (.int 3)]) dJ1_indexOfChar_4cfef_25 rfl rfl (by decide) (by decide) rfl rfl ?_
        refine aw_goto (npc := 7) dJ1_indexOfChar_4cfef_28 (by decide) ?_
        refine aw_iload (npc := 9) rfl dJ1_indexOfChar_4cfef_7 rfl ?_
        refine aw_iload_n (npc := 10) rfl dJ1_indexOfChar_4cfef_9 rfl ?_
        refine aw_icmp_ge (npc := 13) (tgt := 31) dJ1_indexOfChar_4cfef_10 rfl (by decide) (fun _ => ?_) (fun hc => absurd (by decide) hc)
        refine aw_iconst (npc := 32) (v := -1) (by decide) dJ1_indexOfChar_4cfef_31 rfl ?_
        refine aw_iret rfl dJ1_indexOfChar_4cfef_32 ?_
        refine aw_re (S' := [.int (-1)]) rfl ?_
        refine aw_iret rfl dJ1_indexOf_4cfef_36 ?_
        refine aw_re (S' := [.int (-1)]) rfl ?_
        refine aw_goto (npc := 36) dJ0_indexOf_7cf53_20 (by decide) ?_
        refine aw_iret rfl dJ0_indexOf_7cf53_36 ?_
        refine aw_re (S' := [.int (-1)]) rfl ?_
        refine aw_iret rfl dJ0_indexOf_0f7a4_6 ?_
        exact (show bI (nmF 3 v) = (-1) by simp [nmF, bI, nI0, show nI 1 = 1 from rfl, show nI 2 = 2 from rfl, hc3N, hc4N, hc5N]) ▸ hq
      · have hc5N := (nI_eq (a := 115) (b := v) (by omega) (by omega)).mp hc5
        refine aw_iload (npc := 24) rfl dJ1_indexOfChar_4cfef_22 rfl ?_
        refine aw_iret rfl dJ1_indexOfChar_4cfef_24 ?_
        refine aw_re (S' := [.int 2]) rfl ?_
        refine aw_iret rfl dJ1_indexOf_4cfef_36 ?_
        refine aw_re (S' := [.int 2]) rfl ?_
        refine aw_goto (npc := 36) dJ0_indexOf_7cf53_20 (by decide) ?_
        refine aw_iret rfl dJ0_indexOf_7cf53_36 ?_
        refine aw_re (S' := [.int 2]) rfl ?_
        refine aw_iret rfl dJ0_indexOf_0f7a4_6 ?_
        exact (show bI (nmF 3 v) = 2 by simp [nmF, bI, nI0, show nI 1 = 1 from rfl, show nI 2 = 2 from rfl, hc3N, hc4N, hc5N]) ▸ hq
    · have hc4N := (nI_eq (a := 104) (b := v) (by omega) (by omega)).mp hc4
      refine aw_iload (npc := 24) rfl dJ1_indexOfChar_4cfef_22 rfl ?_
      refine aw_iret rfl dJ1_indexOfChar_4cfef_24 ?_
      refine aw_re (S' := [.int 1]) rfl ?_
      refine aw_iret rfl dJ1_indexOf_4cfef_36 ?_
      refine aw_re (S' := [.int 1]) rfl ?_
      refine aw_goto (npc := 36) dJ0_indexOf_7cf53_20 (by decide) ?_
      refine aw_iret rfl dJ0_indexOf_7cf53_36 ?_
      refine aw_re (S' := [.int 1]) rfl ?_
      refine aw_iret rfl dJ0_indexOf_0f7a4_6 ?_
      exact (show bI (nmF 3 v) = 1 by simp [nmF, bI, nI0, show nI 1 = 1 from rfl, show nI 2 = 2 from rfl, hc3N, hc4N]) ▸ hq
  · have hc3N := (nI_eq (a := 112) (b := v) (by omega) (by omega)).mp hc3
    refine aw_iload (npc := 24) rfl dJ1_indexOfChar_4cfef_22 rfl ?_
    refine aw_iret rfl dJ1_indexOfChar_4cfef_24 ?_
    refine aw_re (S' := [.int 0]) rfl ?_
    refine aw_iret rfl dJ1_indexOf_4cfef_36 ?_
    refine aw_re (S' := [.int 0]) rfl ?_
    refine aw_goto (npc := 36) dJ0_indexOf_7cf53_20 (by decide) ?_
    refine aw_iret rfl dJ0_indexOf_7cf53_36 ?_
    refine aw_re (S' := [.int 0]) rfl ?_
    refine aw_iret rfl dJ0_indexOf_0f7a4_6 ?_
    exact (show bI (nmF 3 v) = 0 by simp [nmF, bI, nI0, show nI 1 = 1 from rfl, show nI 2 = 2 from rfl, hc3N]) ▸ hq
set_option maxHeartbeats 4000000 in
set_option maxRecDepth 100000 in
theorem c_sidx4 {X : List Int32} {d rc rs n : Nat} {Q : am_Q} {h : am_H} {v : Nat} (hv : v < 128) (hq : Q (some (.int (bI (nmF 4 v)))) n h) : AW X mJ0_indexOf_0f7a4 (d + 6) rc rs 0 [some (.ref (1000002 + 4)), some (.int (nI v))] [] n h Q := by
  refine aw_aload_n (npc := 1) rfl dJ0_indexOf_0f7a4_0 rfl ?_
  refine aw_iload_n (npc := 2) rfl dJ0_indexOf_0f7a4_1 rfl ?_
  refine aw_iconst (npc := 3) (v := 0) (by decide) dJ0_indexOf_0f7a4_2 rfl ?_
  refine aw_callVS (npc := 6) (N := mJ0_indexOf_7cf53) (i := 4) (mc := 0) (ms := 0) (A := [.int (nI v), .int 0]) (S := []) (L0 := [some (.ref (1000002 + 4)), some (.int (nI v)), some (.int 0)]) dJ0_indexOf_0f7a4_3 rfl km_J0_indexOf_7cf53 kk_J0_633 (by omega) rfl rfl ⟨rfl, by decide⟩ rfl (Nat.le_of_ble_eq_true rfl) (Nat.zero_add _) (Nat.zero_add _) rfl ?_
  refine aw_aload_n (npc := 1) rfl dJ0_indexOf_7cf53_0 rfl ?_
  refine aw_callVS (npc := 4) (N := mJ0_isLatin1_aae02) (i := 4) (mc := 0) (ms := 0) (A := []) (S := []) (L0 := [some (.ref (1000002 + 4))]) dJ0_indexOf_7cf53_1 rfl km_J0_isLatin1_aae02 kk_J0_492 (by omega) rfl rfl ⟨rfl, by decide⟩ rfl (Nat.le_of_ble_eq_true rfl) (Nat.zero_add _) (Nat.zero_add _) rfl ?_
  refine aw_compact (npc := 3) dJ0_isLatin1_aae02_0 rfl ks_J0_38 ?_
  refine aw_if_eq (npc := 6) (tgt := 17) dJ0_isLatin1_aae02_3 rfl (by decide) (fun hc => absurd hc (by decide)) (fun _ => ?_)
  refine aw_aload_n (npc := 7) rfl dJ0_isLatin1_aae02_6 rfl ?_
  refine aw_scod (npc := 10) (i := 4) dJ0_isLatin1_aae02_7 rfl ks_J0_15 (by omega) ?_
  refine aw_if_ne (npc := 13) (tgt := 17) dJ0_isLatin1_aae02_10 rfl (by decide) (fun hc => absurd (by decide) hc) (fun _ => ?_)
  refine aw_iconst (npc := 14) (v := 1) (by decide) dJ0_isLatin1_aae02_13 rfl ?_
  refine aw_goto (npc := 18) dJ0_isLatin1_aae02_14 (by decide) ?_
  refine aw_zret rfl rfl dJ0_isLatin1_aae02_18 ?_
  refine aw_re (S' := [.int 1]) rfl ?_
  refine aw_if_eq (npc := 7) (tgt := 23) dJ0_indexOf_7cf53_4 rfl (by decide) (fun hc => absurd hc (by decide)) (fun _ => ?_)
  refine aw_aload_n (npc := 8) rfl dJ0_indexOf_7cf53_7 rfl ?_
  refine aw_sval (npc := 11) (i := 4) dJ0_indexOf_7cf53_8 rfl ks_J0_9 (by omega) ?_
  refine aw_iload_n (npc := 12) rfl dJ0_indexOf_7cf53_11 rfl ?_
  refine aw_iload_n (npc := 13) rfl dJ0_indexOf_7cf53_12 rfl ?_
  refine aw_aload_n (npc := 14) rfl dJ0_indexOf_7cf53_13 rfl ?_
  refine aw_callVS (npc := 17) (N := mJ0_length_8abf5) (i := 4) (mc := 0) (ms := 0) (A := []) (S := [.int 0, .int (nI v), .ref (1000010 + 4)]) (L0 := [some (.ref (1000002 + 4))]) dJ0_indexOf_7cf53_14 rfl km_J0_length_8abf5 kk_J0_505 (by omega) rfl rfl ⟨rfl, by decide⟩ rfl (Nat.le_of_ble_eq_true rfl) (Nat.zero_add _) (Nat.zero_add _) rfl ?_
  refine c_slen (i := 4) (by omega) ?_
  refine aw_re (S' := [.int 2, .int 0, .int (nI v), .ref (1000010 + 4)]) rfl ?_
  refine aw_callS (npc := 20) (N := mJ1_indexOf_4cfef) (mc := 0) (ms := 0) (A := [.ref (1000010 + 4), .int (nI v), .int 0, .int 2]) (S := []) (L0 := [some (.ref (1000010 + 4)), some (.int (nI v)), some (.int 0), some (.int 2)]) dJ0_indexOf_7cf53_17 rfl km_J1_indexOf_4cfef kk_J0_637 rfl ⟨rfl, by decide⟩ rfl (Nat.le_of_ble_eq_true rfl) (Nat.zero_add _) (Nat.zero_add _) rfl ?_
  refine aw_iload_n (npc := 1) rfl dJ1_indexOf_4cfef_0 rfl ?_
  refine aw_callS (npc := 4) (N := mJ1_canEncode_9a6ad) (mc := 0) (ms := 0) (A := [.int (nI v)]) (S := []) (L0 := [some (.int (nI v))]) dJ1_indexOf_4cfef_1 rfl km_J1_canEncode_9a6ad kk_J1_88 rfl ⟨rfl, by decide⟩ rfl (Nat.le_of_ble_eq_true rfl) (Nat.zero_add _) (Nat.zero_add _) rfl ?_
  refine aw_iload_n (npc := 1) rfl dJ1_canEncode_9a6ad_0 rfl ?_
  refine aw_if_lt (npc := 4) (tgt := 15) dJ1_canEncode_9a6ad_1 rfl (by decide) (fun hc => absurd hc (nI_pos (by omega))) (fun _ => ?_)
  refine aw_iload_n (npc := 5) rfl dJ1_canEncode_9a6ad_4 rfl ?_
  refine aw_sipush (npc := 8) (v := 255) (by decide) dJ1_canEncode_9a6ad_5 rfl ?_
  refine aw_icmp_gt (npc := 11) (tgt := 15) dJ1_canEncode_9a6ad_8 rfl (by decide) (fun hc => absurd hc (nI_nlt (a := 255) (b := v) (by omega) (by omega))) (fun _ => ?_)
  refine aw_iconst (npc := 12) (v := 1) (by decide) dJ1_canEncode_9a6ad_11 rfl ?_
  refine aw_goto (npc := 16) dJ1_canEncode_9a6ad_12 (by decide) ?_
  refine aw_zret rfl rfl dJ1_canEncode_9a6ad_16 ?_
  refine aw_re (S' := [.int 1]) rfl ?_
  refine aw_if_ne (npc := 7) (tgt := 9) dJ1_indexOf_4cfef_4 rfl (by decide) (fun _ => ?_) (fun hc => absurd hc (by decide))
  refine aw_iload_n (npc := 10) rfl dJ1_indexOf_4cfef_9 rfl ?_
  refine aw_iconst (npc := 11) (v := 0) (by decide) dJ1_indexOf_4cfef_10 rfl ?_
  refine aw_mmax (npc := 14) dJ1_indexOf_4cfef_11 rfl kmm_J1_92 kmx_max (Nat.le_of_ble_eq_true rfl) ?_
  refine aw_top (y := 0) (by decide) ?_
  refine aw_istore_n (npc := 15) (L' := [some (.ref (1000010 + 4)), some (.int (nI v)), some (.int 0), some (.int 2)]) dJ1_indexOf_4cfef_14 rfl (by decide) rfl rfl ?_
  refine aw_iload_n (npc := 16) rfl dJ1_indexOf_4cfef_15 rfl ?_
  refine aw_aload_n (npc := 17) rfl dJ1_indexOf_4cfef_16 rfl ?_
  refine aw_sblen (npc := 18) (i := 4) (v := nI (am_slen.getD 4 0)) dJ1_indexOf_4cfef_17 rfl (by omega) rfl ?_
  refine aw_top (y := 2) rfl ?_
  refine aw_mmin (npc := 21) dJ1_indexOf_4cfef_18 rfl kmm_J1_38 kmx_min (Nat.le_of_ble_eq_true rfl) ?_
  refine aw_top (y := 2) (by decide) ?_
  refine aw_istore_n (npc := 22) (L' := [some (.ref (1000010 + 4)), some (.int (nI v)), some (.int 0), some (.int 2)]) dJ1_indexOf_4cfef_21 rfl (by decide) rfl rfl ?_
  refine aw_iload_n (npc := 23) rfl dJ1_indexOf_4cfef_22 rfl ?_
  refine aw_iload_n (npc := 24) rfl dJ1_indexOf_4cfef_23 rfl ?_
  refine aw_icmp_lt (npc := 27) (tgt := 29) dJ1_indexOf_4cfef_24 rfl (by decide) (fun _ => ?_) (fun hc => absurd (by decide) hc)
  refine aw_aload_n (npc := 30) rfl dJ1_indexOf_4cfef_29 rfl ?_
  refine aw_iload_n (npc := 31) rfl dJ1_indexOf_4cfef_30 rfl ?_
  refine aw_iload_n (npc := 32) rfl dJ1_indexOf_4cfef_31 rfl ?_
  refine aw_iload_n (npc := 33) rfl dJ1_indexOf_4cfef_32 rfl ?_
  refine aw_callS (npc := 36) (N := mJ1_indexOfChar_4cfef) (mc := 0) (ms := 0) (A := [.ref (1000010 + 4), .int (nI v), .int 0, .int 2]) (S := []) (L0 := [some (.ref (1000010 + 4)), some (.int (nI v)), some (.int 0), some (.int 2), none, none]) dJ1_indexOf_4cfef_33 rfl km_J1_indexOfChar_4cfef kk_J1_95 rfl ⟨rfl, by decide⟩ rfl (Nat.le_of_ble_eq_true rfl) (Nat.zero_add _) (Nat.zero_add _) rfl ?_
  refine aw_iload_n (npc := 1) rfl dJ1_indexOfChar_4cfef_0 rfl ?_
  refine aw_i2b (npc := 2) dJ1_indexOfChar_4cfef_1 rfl ?_
  refine aw_top (y := nI v) (i2b_id (by omega)) ?_
  refine aw_istore (npc := 4) (L' := [some (.ref (1000010 + 4)), some (.int (nI v)), some (.int 0), some (.int 2), some (.int (nI v)), none]) dJ1_indexOfChar_4cfef_2 rfl (by decide) rfl rfl ?_
  refine aw_iload_n (npc := 5) rfl dJ1_indexOfChar_4cfef_4 rfl ?_
  refine aw_istore (npc := 7) (L' := [some (.ref (1000010 + 4)), some (.int (nI v)), some (.int 0), some (.int 2), some (.int (nI v)), some (.int 0)]) dJ1_indexOfChar_4cfef_5 rfl (by decide) rfl rfl ?_
  refine aw_iload (npc := 9) rfl dJ1_indexOfChar_4cfef_7 rfl ?_
  refine aw_iload_n (npc := 10) rfl dJ1_indexOfChar_4cfef_9 rfl ?_
  refine aw_icmp_ge (npc := 13) (tgt := 31) dJ1_indexOfChar_4cfef_10 rfl (by decide) (fun hc => absurd hc (by decide)) (fun _ => ?_)
  refine aw_aload_n (npc := 14) rfl dJ1_indexOfChar_4cfef_13 rfl ?_
  refine aw_iload (npc := 16) rfl dJ1_indexOfChar_4cfef_14 rfl ?_
  refine aw_sbld (npc := 17) (i := 4) (j := 0) (x := (am_sbyt.getD 4 []).getD 0 0) dJ1_indexOfChar_4cfef_16 rfl (by omega) ⟨by decide, by decide⟩ (by decide) rfl ?_
  refine aw_top (y := 108) rfl ?_
  refine aw_iload (npc := 19) rfl dJ1_indexOfChar_4cfef_17 rfl ?_
  refine aw_icmp_ne (npc := 22) (tgt := 25) dJ1_indexOfChar_4cfef_19 rfl (by decide) (fun hc3 => ?_) (fun hc3 => ?_)
  · have hc3N : ¬ 108 = v := fun z9q => hc3 ((nI_eq (a := 108) (b := v) (by omega) (by omega)).mpr z9q)
    refine aw_iinc (npc := 28) (v := 1) (L' := [some (.ref (1000010 + 4)), some (.int (nI v)), some (.int 0), some (.int 2), some (.int (nI v)), some (.int 1)]) dJ1_indexOfChar_4cfef_25 rfl rfl (by decide) (by decide) rfl rfl ?_
    refine aw_goto (npc := 7) dJ1_indexOfChar_4cfef_28 (by decide) ?_
    refine aw_iload (npc := 9) rfl dJ1_indexOfChar_4cfef_7 rfl ?_
    refine aw_iload_n (npc := 10) rfl dJ1_indexOfChar_4cfef_9 rfl ?_
    refine aw_icmp_ge (npc := 13) (tgt := 31) dJ1_indexOfChar_4cfef_10 rfl (by decide) (fun hc => absurd hc (by decide)) (fun _ => ?_)
    refine aw_aload_n (npc := 14) rfl dJ1_indexOfChar_4cfef_13 rfl ?_
    refine aw_iload (npc := 16) rfl dJ1_indexOfChar_4cfef_14 rfl ?_
    refine aw_sbld (npc := 17) (i := 4) (j := 1) (x := (am_sbyt.getD 4 []).getD 1 0) dJ1_indexOfChar_4cfef_16 rfl (by omega) ⟨by decide, by decide⟩ (by decide) rfl ?_
    refine aw_top (y := 112) rfl ?_
    refine aw_iload (npc := 19) rfl dJ1_indexOfChar_4cfef_17 rfl ?_
    refine aw_icmp_ne (npc := 22) (tgt := 25) dJ1_indexOfChar_4cfef_19 rfl (by decide) (fun hc4 => ?_) (fun hc4 => ?_)
    · have hc4N : ¬ 112 = v := fun z9q => hc4 ((nI_eq (a := 112) (b := v) (by omega) (by omega)).mpr z9q)
      refine aw_iinc (npc := 28) (v := 2) (L' := [some (.ref (1000010 + 4)), some (.int (nI v)), some (.int 0), some (.int 2), some (.int (nI v)), some (.int 2)]) dJ1_indexOfChar_4cfef_25 rfl rfl (by decide) (by decide) rfl rfl ?_
      refine aw_goto (npc := 7) dJ1_indexOfChar_4cfef_28 (by decide) ?_
      refine aw_iload (npc := 9) rfl dJ1_indexOfChar_4cfef_7 rfl ?_
      refine aw_iload_n (npc := 10) rfl dJ1_indexOfChar_4cfef_9 rfl ?_
      refine aw_icmp_ge (npc := 13) (tgt := 31) dJ1_indexOfChar_4cfef_10 rfl (by decide) (fun _ => ?_) (fun hc => absurd (by decide) hc)
      refine aw_iconst (npc := 32) (v := -1) (by decide) dJ1_indexOfChar_4cfef_31 rfl ?_
      refine aw_iret rfl dJ1_indexOfChar_4cfef_32 ?_
      refine aw_re (S' := [.int (-1)]) rfl ?_
      refine aw_iret rfl dJ1_indexOf_4cfef_36 ?_
      refine aw_re (S' := [.int (-1)]) rfl ?_
      refine aw_goto (npc := 36) dJ0_indexOf_7cf53_20 (by decide) ?_
      refine aw_iret rfl dJ0_indexOf_7cf53_36 ?_
      refine aw_re (S' := [.int (-1)]) rfl ?_
      refine aw_iret rfl dJ0_indexOf_0f7a4_6 ?_
      exact (show bI (nmF 4 v) = (-1) by simp [nmF, bI, nI0, show nI 1 = 1 from rfl, show nI 2 = 2 from rfl, hc3N, hc4N]) ▸ hq
    · have hc4N := (nI_eq (a := 112) (b := v) (by omega) (by omega)).mp hc4
      refine aw_iload (npc := 24) rfl dJ1_indexOfChar_4cfef_22 rfl ?_
      refine aw_iret rfl dJ1_indexOfChar_4cfef_24 ?_
      refine aw_re (S' := [.int 1]) rfl ?_
      refine aw_iret rfl dJ1_indexOf_4cfef_36 ?_
      refine aw_re (S' := [.int 1]) rfl ?_
      refine aw_goto (npc := 36) dJ0_indexOf_7cf53_20 (by decide) ?_
      refine aw_iret rfl dJ0_indexOf_7cf53_36 ?_
      refine aw_re (S' := [.int 1]) rfl ?_
      refine aw_iret rfl dJ0_indexOf_0f7a4_6 ?_
      exact (show bI (nmF 4 v) = 1 by simp [nmF, bI, nI0, show nI 1 = 1 from rfl, show nI 2 = 2 from rfl, hc3N, hc4N]) ▸ hq
  · have hc3N := (nI_eq (a := 108) (b := v) (by omega) (by omega)).mp hc3
    refine aw_iload (npc := 24) rfl dJ1_indexOfChar_4cfef_22 rfl ?_
    refine aw_iret rfl dJ1_indexOfChar_4cfef_24 ?_
    refine aw_re (S' := [.int 0]) rfl ?_
    refine aw_iret rfl dJ1_indexOf_4cfef_36 ?_
    refine aw_re (S' := [.int 0]) rfl ?_
    refine aw_goto (npc := 36) dJ0_indexOf_7cf53_20 (by decide) ?_
    refine aw_iret rfl dJ0_indexOf_7cf53_36 ?_
    refine aw_re (S' := [.int 0]) rfl ?_
    refine aw_iret rfl dJ0_indexOf_0f7a4_6 ?_
    exact (show bI (nmF 4 v) = 0 by simp [nmF, bI, nI0, show nI 1 = 1 from rfl, show nI 2 = 2 from rfl, hc3N]) ▸ hq
set_option maxHeartbeats 4000000 in
set_option maxRecDepth 100000 in
theorem c_sidx5 {X : List Int32} {d rc rs n : Nat} {Q : am_Q} {h : am_H} {v : Nat} (hv : v < 128) (hq : Q (some (.int (bI (nmF 5 v)))) n h) : AW X mJ0_indexOf_0f7a4 (d + 6) rc rs 0 [some (.ref (1000002 + 5)), some (.int (nI v))] [] n h Q := by
  refine aw_aload_n (npc := 1) rfl dJ0_indexOf_0f7a4_0 rfl ?_
  refine aw_iload_n (npc := 2) rfl dJ0_indexOf_0f7a4_1 rfl ?_
  refine aw_iconst (npc := 3) (v := 0) (by decide) dJ0_indexOf_0f7a4_2 rfl ?_
  refine aw_callVS (npc := 6) (N := mJ0_indexOf_7cf53) (i := 5) (mc := 0) (ms := 0) (A := [.int (nI v), .int 0]) (S := []) (L0 := [some (.ref (1000002 + 5)), some (.int (nI v)), some (.int 0)]) dJ0_indexOf_0f7a4_3 rfl km_J0_indexOf_7cf53 kk_J0_633 (by omega) rfl rfl ⟨rfl, by decide⟩ rfl (Nat.le_of_ble_eq_true rfl) (Nat.zero_add _) (Nat.zero_add _) rfl ?_
  refine aw_aload_n (npc := 1) rfl dJ0_indexOf_7cf53_0 rfl ?_
  refine aw_callVS (npc := 4) (N := mJ0_isLatin1_aae02) (i := 5) (mc := 0) (ms := 0) (A := []) (S := []) (L0 := [some (.ref (1000002 + 5))]) dJ0_indexOf_7cf53_1 rfl km_J0_isLatin1_aae02 kk_J0_492 (by omega) rfl rfl ⟨rfl, by decide⟩ rfl (Nat.le_of_ble_eq_true rfl) (Nat.zero_add _) (Nat.zero_add _) rfl ?_
  refine aw_compact (npc := 3) dJ0_isLatin1_aae02_0 rfl ks_J0_38 ?_
  refine aw_if_eq (npc := 6) (tgt := 17) dJ0_isLatin1_aae02_3 rfl (by decide) (fun hc => absurd hc (by decide)) (fun _ => ?_)
  refine aw_aload_n (npc := 7) rfl dJ0_isLatin1_aae02_6 rfl ?_
  refine aw_scod (npc := 10) (i := 5) dJ0_isLatin1_aae02_7 rfl ks_J0_15 (by omega) ?_
  refine aw_if_ne (npc := 13) (tgt := 17) dJ0_isLatin1_aae02_10 rfl (by decide) (fun hc => absurd (by decide) hc) (fun _ => ?_)
  refine aw_iconst (npc := 14) (v := 1) (by decide) dJ0_isLatin1_aae02_13 rfl ?_
  refine aw_goto (npc := 18) dJ0_isLatin1_aae02_14 (by decide) ?_
  refine aw_zret rfl rfl dJ0_isLatin1_aae02_18 ?_
  refine aw_re (S' := [.int 1]) rfl ?_
  refine aw_if_eq (npc := 7) (tgt := 23) dJ0_indexOf_7cf53_4 rfl (by decide) (fun hc => absurd hc (by decide)) (fun _ => ?_)
  refine aw_aload_n (npc := 8) rfl dJ0_indexOf_7cf53_7 rfl ?_
  refine aw_sval (npc := 11) (i := 5) dJ0_indexOf_7cf53_8 rfl ks_J0_9 (by omega) ?_
  refine aw_iload_n (npc := 12) rfl dJ0_indexOf_7cf53_11 rfl ?_
  refine aw_iload_n (npc := 13) rfl dJ0_indexOf_7cf53_12 rfl ?_
  refine aw_aload_n (npc := 14) rfl dJ0_indexOf_7cf53_13 rfl ?_
  refine aw_callVS (npc := 17) (N := mJ0_length_8abf5) (i := 5) (mc := 0) (ms := 0) (A := []) (S := [.int 0, .int (nI v), .ref (1000010 + 5)]) (L0 := [some (.ref (1000002 + 5))]) dJ0_indexOf_7cf53_14 rfl km_J0_length_8abf5 kk_J0_505 (by omega) rfl rfl ⟨rfl, by decide⟩ rfl (Nat.le_of_ble_eq_true rfl) (Nat.zero_add _) (Nat.zero_add _) rfl ?_
  refine c_slen (i := 5) (by omega) ?_
  refine aw_re (S' := [.int 2, .int 0, .int (nI v), .ref (1000010 + 5)]) rfl ?_
  refine aw_callS (npc := 20) (N := mJ1_indexOf_4cfef) (mc := 0) (ms := 0) (A := [.ref (1000010 + 5), .int (nI v), .int 0, .int 2]) (S := []) (L0 := [some (.ref (1000010 + 5)), some (.int (nI v)), some (.int 0), some (.int 2)]) dJ0_indexOf_7cf53_17 rfl km_J1_indexOf_4cfef kk_J0_637 rfl ⟨rfl, by decide⟩ rfl (Nat.le_of_ble_eq_true rfl) (Nat.zero_add _) (Nat.zero_add _) rfl ?_
  refine aw_iload_n (npc := 1) rfl dJ1_indexOf_4cfef_0 rfl ?_
  refine aw_callS (npc := 4) (N := mJ1_canEncode_9a6ad) (mc := 0) (ms := 0) (A := [.int (nI v)]) (S := []) (L0 := [some (.int (nI v))]) dJ1_indexOf_4cfef_1 rfl km_J1_canEncode_9a6ad kk_J1_88 rfl ⟨rfl, by decide⟩ rfl (Nat.le_of_ble_eq_true rfl) (Nat.zero_add _) (Nat.zero_add _) rfl ?_
  refine aw_iload_n (npc := 1) rfl dJ1_canEncode_9a6ad_0 rfl ?_
  refine aw_if_lt (npc := 4) (tgt := 15) dJ1_canEncode_9a6ad_1 rfl (by decide) (fun hc => absurd hc (nI_pos (by omega))) (fun _ => ?_)
  refine aw_iload_n (npc := 5) rfl dJ1_canEncode_9a6ad_4 rfl ?_
  refine aw_sipush (npc := 8) (v := 255) (by decide) dJ1_canEncode_9a6ad_5 rfl ?_
  refine aw_icmp_gt (npc := 11) (tgt := 15) dJ1_canEncode_9a6ad_8 rfl (by decide) (fun hc => absurd hc (nI_nlt (a := 255) (b := v) (by omega) (by omega))) (fun _ => ?_)
  refine aw_iconst (npc := 12) (v := 1) (by decide) dJ1_canEncode_9a6ad_11 rfl ?_
  refine aw_goto (npc := 16) dJ1_canEncode_9a6ad_12 (by decide) ?_
  refine aw_zret rfl rfl dJ1_canEncode_9a6ad_16 ?_
  refine aw_re (S' := [.int 1]) rfl ?_
  refine aw_if_ne (npc := 7) (tgt := 9) dJ1_indexOf_4cfef_4 rfl (by decide) (fun _ => ?_) (fun hc => absurd hc (by decide))
  refine aw_iload_n (npc := 10) rfl dJ1_indexOf_4cfef_9 rfl ?_
  refine aw_iconst (npc := 11) (v := 0) (by decide) dJ1_indexOf_4cfef_10 rfl ?_
  refine aw_mmax (npc := 14) dJ1_indexOf_4cfef_11 rfl kmm_J1_92 kmx_max (Nat.le_of_ble_eq_true rfl) ?_
  refine aw_top (y := 0) (by decide) ?_
  refine aw_istore_n (npc := 15) (L' := [some (.ref (1000010 + 5)), some (.int (nI v)), some (.int 0), some (.int 2)]) dJ1_indexOf_4cfef_14 rfl (by decide) rfl rfl ?_
  refine aw_iload_n (npc := 16) rfl dJ1_indexOf_4cfef_15 rfl ?_
  refine aw_aload_n (npc := 17) rfl dJ1_indexOf_4cfef_16 rfl ?_
  refine aw_sblen (npc := 18) (i := 5) (v := nI (am_slen.getD 5 0)) dJ1_indexOf_4cfef_17 rfl (by omega) rfl ?_
  refine aw_top (y := 2) rfl ?_
  refine aw_mmin (npc := 21) dJ1_indexOf_4cfef_18 rfl kmm_J1_38 kmx_min (Nat.le_of_ble_eq_true rfl) ?_
  refine aw_top (y := 2) (by decide) ?_
  refine aw_istore_n (npc := 22) (L' := [some (.ref (1000010 + 5)), some (.int (nI v)), some (.int 0), some (.int 2)]) dJ1_indexOf_4cfef_21 rfl (by decide) rfl rfl ?_
  refine aw_iload_n (npc := 23) rfl dJ1_indexOf_4cfef_22 rfl ?_
  refine aw_iload_n (npc := 24) rfl dJ1_indexOf_4cfef_23 rfl ?_
  refine aw_icmp_lt (npc := 27) (tgt := 29) dJ1_indexOf_4cfef_24 rfl (by decide) (fun _ => ?_) (fun hc => absurd (by decide) hc)
  refine aw_aload_n (npc := 30) rfl dJ1_indexOf_4cfef_29 rfl ?_
  refine aw_iload_n (npc := 31) rfl dJ1_indexOf_4cfef_30 rfl ?_
  refine aw_iload_n (npc := 32) rfl dJ1_indexOf_4cfef_31 rfl ?_
  refine aw_iload_n (npc := 33) rfl dJ1_indexOf_4cfef_32 rfl ?_
  refine aw_callS (npc := 36) (N := mJ1_indexOfChar_4cfef) (mc := 0) (ms := 0) (A := [.ref (1000010 + 5), .int (nI v), .int 0, .int 2]) (S := []) (L0 := [some (.ref (1000010 + 5)), some (.int (nI v)), some (.int 0), some (.int 2), none, none]) dJ1_indexOf_4cfef_33 rfl km_J1_indexOfChar_4cfef kk_J1_95 rfl ⟨rfl, by decide⟩ rfl (Nat.le_of_ble_eq_true rfl) (Nat.zero_add _) (Nat.zero_add _) rfl ?_
  refine aw_iload_n (npc := 1) rfl dJ1_indexOfChar_4cfef_0 rfl ?_
  refine aw_i2b (npc := 2) dJ1_indexOfChar_4cfef_1 rfl ?_
  refine aw_top (y := nI v) (i2b_id (by omega)) ?_
  refine aw_istore (npc := 4) (L' := [some (.ref (1000010 + 5)), some (.int (nI v)), some (.int 0), some (.int 2), some (.int (nI v)), none]) dJ1_indexOfChar_4cfef_2 rfl (by decide) rfl rfl ?_
  refine aw_iload_n (npc := 5) rfl dJ1_indexOfChar_4cfef_4 rfl ?_
  refine aw_istore (npc := 7) (L' := [some (.ref (1000010 + 5)), some (.int (nI v)), some (.int 0), some (.int 2), some (.int (nI v)), some (.int 0)]) dJ1_indexOfChar_4cfef_5 rfl (by decide) rfl rfl ?_
  refine aw_iload (npc := 9) rfl dJ1_indexOfChar_4cfef_7 rfl ?_
  refine aw_iload_n (npc := 10) rfl dJ1_indexOfChar_4cfef_9 rfl ?_
  refine aw_icmp_ge (npc := 13) (tgt := 31) dJ1_indexOfChar_4cfef_10 rfl (by decide) (fun hc => absurd hc (by decide)) (fun _ => ?_)
  refine aw_aload_n (npc := 14) rfl dJ1_indexOfChar_4cfef_13 rfl ?_
  refine aw_iload (npc := 16) rfl dJ1_indexOfChar_4cfef_14 rfl ?_
  refine aw_sbld (npc := 17) (i := 5) (j := 0) (x := (am_sbyt.getD 5 []).getD 0 0) dJ1_indexOfChar_4cfef_16 rfl (by omega) ⟨by decide, by decide⟩ (by decide) rfl ?_
  refine aw_top (y := 121) rfl ?_
  refine aw_iload (npc := 19) rfl dJ1_indexOfChar_4cfef_17 rfl ?_
  refine aw_icmp_ne (npc := 22) (tgt := 25) dJ1_indexOfChar_4cfef_19 rfl (by decide) (fun hc3 => ?_) (fun hc3 => ?_)
  · have hc3N : ¬ 121 = v := fun z9q => hc3 ((nI_eq (a := 121) (b := v) (by omega) (by omega)).mpr z9q)
    refine aw_iinc (npc := 28) (v := 1) (L' := [some (.ref (1000010 + 5)), some (.int (nI v)), some (.int 0), some (.int 2), some (.int (nI v)), some (.int 1)]) dJ1_indexOfChar_4cfef_25 rfl rfl (by decide) (by decide) rfl rfl ?_
    refine aw_goto (npc := 7) dJ1_indexOfChar_4cfef_28 (by decide) ?_
    refine aw_iload (npc := 9) rfl dJ1_indexOfChar_4cfef_7 rfl ?_
    refine aw_iload_n (npc := 10) rfl dJ1_indexOfChar_4cfef_9 rfl ?_
    refine aw_icmp_ge (npc := 13) (tgt := 31) dJ1_indexOfChar_4cfef_10 rfl (by decide) (fun hc => absurd hc (by decide)) (fun _ => ?_)
    refine aw_aload_n (npc := 14) rfl dJ1_indexOfChar_4cfef_13 rfl ?_
    refine aw_iload (npc := 16) rfl dJ1_indexOfChar_4cfef_14 rfl ?_
    refine aw_sbld (npc := 17) (i := 5) (j := 1) (x := (am_sbyt.getD 5 []).getD 1 0) dJ1_indexOfChar_4cfef_16 rfl (by omega) ⟨by decide, by decide⟩ (by decide) rfl ?_
    refine aw_top (y := 110) rfl ?_
    refine aw_iload (npc := 19) rfl dJ1_indexOfChar_4cfef_17 rfl ?_
    refine aw_icmp_ne (npc := 22) (tgt := 25) dJ1_indexOfChar_4cfef_19 rfl (by decide) (fun hc4 => ?_) (fun hc4 => ?_)
    · have hc4N : ¬ 110 = v := fun z9q => hc4 ((nI_eq (a := 110) (b := v) (by omega) (by omega)).mpr z9q)
      refine aw_iinc (npc := 28) (v := 2) (L' := [some (.ref (1000010 + 5)), some (.int (nI v)), some (.int 0), some (.int 2), some (.int (nI v)), some (.int 2)]) dJ1_indexOfChar_4cfef_25 rfl rfl (by decide) (by decide) rfl rfl ?_
      refine aw_goto (npc := 7) dJ1_indexOfChar_4cfef_28 (by decide) ?_
      refine aw_iload (npc := 9) rfl dJ1_indexOfChar_4cfef_7 rfl ?_
      refine aw_iload_n (npc := 10) rfl dJ1_indexOfChar_4cfef_9 rfl ?_
      refine aw_icmp_ge (npc := 13) (tgt := 31) dJ1_indexOfChar_4cfef_10 rfl (by decide) (fun _ => ?_) (fun hc => absurd (by decide) hc)
      refine aw_iconst (npc := 32) (v := -1) (by decide) dJ1_indexOfChar_4cfef_31 rfl ?_
      refine aw_iret rfl dJ1_indexOfChar_4cfef_32 ?_
      refine aw_re (S' := [.int (-1)]) rfl ?_
      refine aw_iret rfl dJ1_indexOf_4cfef_36 ?_
      refine aw_re (S' := [.int (-1)]) rfl ?_
      refine aw_goto (npc := 36) dJ0_indexOf_7cf53_20 (by decide) ?_
      refine aw_iret rfl dJ0_indexOf_7cf53_36 ?_
      refine aw_re (S' := [.int (-1)]) rfl ?_
      refine aw_iret rfl dJ0_indexOf_0f7a4_6 ?_
      exact (show bI (nmF 5 v) = (-1) by simp [nmF, bI, nI0, show nI 1 = 1 from rfl, show nI 2 = 2 from rfl, hc3N, hc4N]) ▸ hq
    · have hc4N := (nI_eq (a := 110) (b := v) (by omega) (by omega)).mp hc4
      refine aw_iload (npc := 24) rfl dJ1_indexOfChar_4cfef_22 rfl ?_
      refine aw_iret rfl dJ1_indexOfChar_4cfef_24 ?_
      refine aw_re (S' := [.int 1]) rfl ?_
      refine aw_iret rfl dJ1_indexOf_4cfef_36 ?_
      refine aw_re (S' := [.int 1]) rfl ?_
      refine aw_goto (npc := 36) dJ0_indexOf_7cf53_20 (by decide) ?_
      refine aw_iret rfl dJ0_indexOf_7cf53_36 ?_
      refine aw_re (S' := [.int 1]) rfl ?_
      refine aw_iret rfl dJ0_indexOf_0f7a4_6 ?_
      exact (show bI (nmF 5 v) = 1 by simp [nmF, bI, nI0, show nI 1 = 1 from rfl, show nI 2 = 2 from rfl, hc3N, hc4N]) ▸ hq
  · have hc3N := (nI_eq (a := 121) (b := v) (by omega) (by omega)).mp hc3
    refine aw_iload (npc := 24) rfl dJ1_indexOfChar_4cfef_22 rfl ?_
    refine aw_iret rfl dJ1_indexOfChar_4cfef_24 ?_
    refine aw_re (S' := [.int 0]) rfl ?_
    refine aw_iret rfl dJ1_indexOf_4cfef_36 ?_
    refine aw_re (S' := [.int 0]) rfl ?_
    refine aw_goto (npc := 36) dJ0_indexOf_7cf53_20 (by decide) ?_
    refine aw_iret rfl dJ0_indexOf_7cf53_36 ?_
    refine aw_re (S' := [.int 0]) rfl ?_
    refine aw_iret rfl dJ0_indexOf_0f7a4_6 ?_
    exact (show bI (nmF 5 v) = 0 by simp [nmF, bI, nI0, show nI 1 = 1 from rfl, show nI 2 = 2 from rfl, hc3N]) ▸ hq
def so (b : Int32) : Nat := if 97 ≤ b ∧ b ≤ 122 then 1 else if 48 ≤ b ∧ b ≤ 57 then 2 else if b = 32 then 4 else 3
def skB (tp : Nat → Int32) : Nat → Nat → Nat
  | 0, i => i
  | m + 1, i => if tp i = 32 then skB tp m (i + 1) else i
def sk (L : Nat) (tp : Nat → Int32) (i : Nat) : Nat := skB tp (L - i) i
def rnB (tp : Nat → Int32) (t : Nat) : Nat → Nat → Nat
  | 0, i => i
  | m + 1, i => if so (tp i) = t then rnB tp t m (i + 1) else i
def rn (L : Nat) (tp : Nat → Int32) (t i : Nat) : Nat := rnB tp t (L - i) i
theorem sk_s {L : Nat} {tp : Nat → Int32} {i : Nat} (hi : i < L) (h : tp i = 32) : sk L tp i = sk L tp (i + 1) := by
  unfold sk
  rw [show L - i = (L - (i + 1)) + 1 by omega]
  exact if_pos h
theorem sk_e {L : Nat} {tp : Nat → Int32} {i : Nat} (h : ¬ i < L ∨ ¬ tp i = 32) : sk L tp i = i := by
  unfold sk
  by_cases hi : i < L
  · rw [show L - i = (L - (i + 1)) + 1 by omega]
    exact if_neg (h.resolve_left (fun q => q hi))
  · rw [show L - i = 0 by omega]; rfl
theorem rn_s {L t : Nat} {tp : Nat → Int32} {i : Nat} (hi : i < L) (h : so (tp i) = t) : rn L tp t i = rn L tp t (i + 1) := by
  unfold rn
  rw [show L - i = (L - (i + 1)) + 1 by omega]
  exact if_pos h
theorem rn_e {L t : Nat} {tp : Nat → Int32} {i : Nat} (h : ¬ i < L ∨ ¬ so (tp i) = t) : rn L tp t i = i := by
  unfold rn
  by_cases hi : i < L
  · rw [show L - i = (L - (i + 1)) + 1 by omega]
    exact if_neg (h.resolve_left (fun q => q hi))
  · rw [show L - i = 0 by omega]; rfl
theorem skB_p {tp : Nat → Int32} : ∀ (m i : Nat), i ≤ skB tp m i ∧ skB tp m i ≤ i + m ∧ (skB tp m i < i + m → ¬ tp (skB tp m i) = 32) := by
  intro m
  induction m with
  | zero => intro i; exact ⟨Nat.le_refl _, Nat.le_refl _, fun h => absurd h (Nat.lt_irrefl _)⟩
  | succ m ih =>
    intro i
    show i ≤ (if tp i = 32 then skB tp m (i + 1) else i) ∧ (if tp i = 32 then skB tp m (i + 1) else i) ≤ i + (m + 1) ∧ ((if tp i = 32 then skB tp m (i + 1) else i) < i + (m + 1) → ¬ tp (if tp i = 32 then skB tp m (i + 1) else i) = 32)
    by_cases q : tp i = 32
    · rw [if_pos q]
      have r := ih (i + 1)
      exact ⟨by omega, by omega, fun h => r.2.2 (by omega)⟩
    · rw [if_neg q]; exact ⟨Nat.le_refl _, by omega, fun _ => q⟩
theorem rnB_p {tp : Nat → Int32} {t : Nat} : ∀ (m i : Nat), i ≤ rnB tp t m i ∧ rnB tp t m i ≤ i + m ∧ ∀ j, i ≤ j → j < rnB tp t m i → so (tp j) = t := by
  intro m
  induction m with
  | zero => intro i; exact ⟨Nat.le_refl _, Nat.le_refl _, fun j h1 h2 => by have z : j < i := h2; omega⟩
  | succ m ih =>
    intro i
    show i ≤ (if so (tp i) = t then rnB tp t m (i + 1) else i) ∧ (if so (tp i) = t then rnB tp t m (i + 1) else i) ≤ i + (m + 1) ∧ ∀ j, i ≤ j → j < (if so (tp i) = t then rnB tp t m (i + 1) else i) → so (tp j) = t
    by_cases q : so (tp i) = t
    · rw [if_pos q]
      have r := ih (i + 1)
      exact ⟨by omega, by omega, fun j h1 h2 => by
        by_cases e : j = i
        · rw [e]; exact q
        · exact r.2.2 j (by omega) h2⟩
    · rw [if_neg q]; exact ⟨Nat.le_refl _, by omega, fun j h1 h2 => by omega⟩
def nx (L : Nat) (tp : Nat → Int32) (i : Nat) (w : Bool) : Nat × Nat × Nat :=
  if L ≤ sk L tp i then (0, sk L tp i, sk L tp i)
  else if so (tp (sk L tp i)) = 3 then (3, sk L tp i, sk L tp i + 1)
  else if (w = true ∧ sk L tp i = i) ∨ (so (tp (sk L tp i)) = 2 ∧ 4 < rn L tp (so (tp (sk L tp i))) (sk L tp i + 1) - sk L tp i) then (5, sk L tp i, rn L tp (so (tp (sk L tp i))) (sk L tp i + 1))
  else (so (tp (sk L tp i)), sk L tp i, rn L tp (so (tp (sk L tp i))) (sk L tp i + 1))
theorem so_c (b : Int32) : so b = 1 ∨ so b = 2 ∨ so b = 3 ∨ so b = 4 := by
  unfold so
  by_cases h1 : 97 ≤ b ∧ b ≤ 122
  · rw [if_pos h1]; exact Or.inl rfl
  · rw [if_neg h1]
    by_cases h2 : 48 ≤ b ∧ b ≤ 57
    · rw [if_pos h2]; exact Or.inr (Or.inl rfl)
    · rw [if_neg h2]
      by_cases h3 : b = 32
      · rw [if_pos h3]; exact Or.inr (Or.inr (Or.inr rfl))
      · rw [if_neg h3]; exact Or.inr (Or.inr (Or.inl rfl))
theorem so_1 {b : Int32} : so b = 1 ↔ (97 ≤ b ∧ b ≤ 122) := by
  unfold so
  by_cases h1 : 97 ≤ b ∧ b ≤ 122
  · rw [if_pos h1]; exact ⟨fun _ => h1, fun _ => rfl⟩
  · rw [if_neg h1]
    refine ⟨fun q => ?_, fun q => absurd q h1⟩
    by_cases h2 : 48 ≤ b ∧ b ≤ 57
    · rw [if_pos h2] at q; exact absurd q (by decide)
    · rw [if_neg h2] at q
      by_cases h3 : b = 32
      · rw [if_pos h3] at q; exact absurd q (by decide)
      · rw [if_neg h3] at q; exact absurd q (by decide)
theorem so_2 {b : Int32} (h1 : ¬ (97 ≤ b ∧ b ≤ 122)) : so b = 2 ↔ (48 ≤ b ∧ b ≤ 57) := by
  unfold so
  rw [if_neg h1]
  by_cases h2 : 48 ≤ b ∧ b ≤ 57
  · rw [if_pos h2]; exact ⟨fun _ => h2, fun _ => rfl⟩
  · rw [if_neg h2]
    refine ⟨fun q => ?_, fun q => absurd q h2⟩
    by_cases h3 : b = 32
    · rw [if_pos h3] at q; exact absurd q (by decide)
    · rw [if_neg h3] at q; exact absurd q (by decide)
theorem so_2d {b : Int32} (h : so b = 2) : 48 ≤ b ∧ b ≤ 57 := by
  have h1 : ¬ (97 ≤ b ∧ b ≤ 122) := fun q => absurd ((so_1.mpr q).symm.trans h) (by decide)
  exact (so_2 h1).mp h
theorem so_4 {b : Int32} : so b = 4 ↔ b = 32 := by
  refine ⟨fun h => ?_, fun h => by subst h; decide⟩
  unfold so at h
  by_cases h1 : 97 ≤ b ∧ b ≤ 122
  · rw [if_pos h1] at h; exact absurd h (by decide)
  · rw [if_neg h1] at h
    by_cases h2 : 48 ≤ b ∧ b ≤ 57
    · rw [if_pos h2] at h; exact absurd h (by decide)
    · rw [if_neg h2] at h
      by_cases h3 : b = 32
      · exact h3
      · rw [if_neg h3] at h; exact absurd h (by decide)
theorem so_dig {b : Int32} (h : so b = 2) : ∃ k, k ≤ 9 ∧ b = nI (48 + k) := by
  have z := so_2d h
  obtain ⟨q, hq, e⟩ := wi_nI (H := 57) (lo := 48) (hi := 57) (by decide) (by decide) ⟨Int32.not_lt.mpr z.1, Int32.not_lt.mpr z.2⟩
  subst e
  have z2 := (nI_leI (a := 48) (b := q) (by omega) (by omega)).mp z.1
  exact ⟨q - 48, by omega, congrArg nI (by omega)⟩
theorem so_let {b : Int32} (h : so b = 1) : ∃ k, 97 ≤ k ∧ k ≤ 122 ∧ b = nI k := by
  have z := so_1.mp h
  obtain ⟨q, hq, e⟩ := wi_nI (H := 122) (lo := 97) (hi := 122) (by decide) (by decide) ⟨Int32.not_lt.mpr z.1, Int32.not_lt.mpr z.2⟩
  subst e
  exact ⟨q, (nI_leI (a := 97) (b := q) (by omega) (by omega)).mp z.1, hq, rfl⟩
def WFK (L : Nat) (tp : Nat → Int32) (K : Nat × Nat × Nat) : Prop := K.2.2 ≤ L ∧ K.2.1 ≤ K.2.2 ∧ K.1 ≤ 5 ∧ K.1 ≠ 4 ∧ (K.1 = 0 → K.2.1 = L) ∧ (K.1 ≠ 0 → K.2.1 < K.2.2) ∧ (K.1 = 1 → ∀ j, K.2.1 ≤ j → j < K.2.2 → so (tp j) = 1) ∧ (K.1 = 2 → (∀ j, K.2.1 ≤ j → j < K.2.2 → so (tp j) = 2) ∧ K.2.2 ≤ K.2.1 + 4) ∧ (K.1 = 3 → so (tp K.2.1) = 3 ∧ K.2.2 = K.2.1 + 1)
theorem nx_wf {L : Nat} {tp : Nat → Int32} {i : Nat} {w : Bool} (hi : i ≤ L) : WFK L tp (nx L tp i w) ∧ i ≤ (nx L tp i w).2.1 := by
  have s := skB_p (tp := tp) (L - i) i
  have hs1 : i ≤ sk L tp i := s.1
  have hs2 : sk L tp i ≤ L := by have z := s.2.1; show skB tp (L - i) i ≤ L; omega
  have hs3 : sk L tp i < L → ¬ tp (sk L tp i) = 32 := fun h => s.2.2 (by have z : skB tp (L - i) i < L := h; omega)
  unfold nx
  by_cases q : L ≤ sk L tp i
  · rw [if_pos q]
    exact ⟨⟨hs2, Nat.le_refl _, by simp, by simp, fun _ => by show sk L tp i = L; omega, fun h => absurd rfl h, fun h => absurd h (by simp), fun h => absurd h (by simp), fun h => absurd h (by simp)⟩, hs1⟩
  · rw [if_neg q]
    by_cases q3 : so (tp (sk L tp i)) = 3
    · rw [if_pos q3]
      exact ⟨⟨by show sk L tp i + 1 ≤ L; omega, by show sk L tp i ≤ sk L tp i + 1; omega, by simp, by simp, fun h => absurd h (by simp), fun _ => by show sk L tp i < sk L tp i + 1; omega, fun h => absurd h (by simp), fun h => absurd h (by simp), fun _ => ⟨q3, rfl⟩⟩, hs1⟩
    · rw [if_neg q3]
      have r := rnB_p (tp := tp) (t := so (tp (sk L tp i))) (L - (sk L tp i + 1)) (sk L tp i + 1)
      have hr1 : sk L tp i + 1 ≤ rn L tp (so (tp (sk L tp i))) (sk L tp i + 1) := r.1
      have hr2 : rn L tp (so (tp (sk L tp i))) (sk L tp i + 1) ≤ L := by
        have z := r.2.1
        show rnB tp _ (L - (sk L tp i + 1)) (sk L tp i + 1) ≤ L
        omega
      have hr3 : ∀ j, sk L tp i ≤ j → j < rn L tp (so (tp (sk L tp i))) (sk L tp i + 1) → so (tp j) = so (tp (sk L tp i)) := fun j h1 h2 => by
        by_cases e : j = sk L tp i
        · rw [e]
        · exact r.2.2 j (by omega) h2
      have hc : so (tp (sk L tp i)) = 1 ∨ so (tp (sk L tp i)) = 2 := by
        rcases so_c (tp (sk L tp i)) with h | h | h | h
        · exact Or.inl h
        · exact Or.inr h
        · exact absurd h q3
        · exact absurd (so_4.mp h) (hs3 (by omega))
      by_cases q5 : (w = true ∧ sk L tp i = i) ∨ (so (tp (sk L tp i)) = 2 ∧ 4 < rn L tp (so (tp (sk L tp i))) (sk L tp i + 1) - sk L tp i)
      · rw [if_pos q5]
        exact ⟨⟨hr2, by show sk L tp i ≤ rn L tp (so (tp (sk L tp i))) (sk L tp i + 1); omega, by simp, by simp, fun h => absurd h (by simp), fun _ => by show sk L tp i < rn L tp (so (tp (sk L tp i))) (sk L tp i + 1); omega, fun h => absurd h (by simp), fun h => absurd h (by simp), fun h => absurd h (by simp)⟩, hs1⟩
      · rw [if_neg q5]
        refine ⟨⟨hr2, by show sk L tp i ≤ rn L tp (so (tp (sk L tp i))) (sk L tp i + 1); omega, by show so (tp (sk L tp i)) ≤ 5; omega, by show so (tp (sk L tp i)) ≠ 4; omega, fun h => by have z : so (tp (sk L tp i)) = 0 := h; omega, fun _ => by show sk L tp i < rn L tp (so (tp (sk L tp i))) (sk L tp i + 1); omega, fun h j h1 h2 => (hr3 j h1 h2).trans h, fun h => ⟨fun j h1 h2 => (hr3 j h1 h2).trans h, ?_⟩, fun h => absurd h q3⟩, hs1⟩
        have z : ¬ 4 < rn L tp (so (tp (sk L tp i))) (sk L tp i + 1) - sk L tp i := fun z => q5 (Or.inr ⟨h, z⟩)
        show rn L tp (so (tp (sk L tp i))) (sk L tp i + 1) ≤ sk L tp i + 4
        omega
def wd (K : Nat × Nat × Nat) : Bool := decide (K.1 = 1 ∨ K.1 = 2)
def adv (L : Nat) (tp : Nat → Int32) (K : Nat × Nat × Nat) : Nat × Nat × Nat := nx L tp K.2.2 (wd K)
theorem adv_wf {L : Nat} {tp : Nat → Int32} {K : Nat × Nat × Nat} (h : WFK L tp K) : WFK L tp (adv L tp K) ∧ K.2.2 ≤ (adv L tp K).2.1 := nx_wf h.1
abbrev RS : Type := (Nat × Nat × Nat) × Option Nat × Int32 × List Int32 × Nat × Nat × Nat
def fI : Option Nat → Int32
  | none => -1
  | some q => nI q
def RM (ρ : RS) (r cd : Nat → Int32) : Prop := r 1 = nI ρ.1.2.2 ∧ r 2 = nI ρ.1.1 ∧ r 3 = nI ρ.1.2.1 ∧ r 4 = fI ρ.2.1 ∧ r 5 = ρ.2.2.1 ∧ r 7 = nI ρ.2.2.2.1.length ∧ r 8 = nI ρ.2.2.2.2.1 ∧ r 9 = nI ρ.2.2.2.2.2.1 ∧ r 10 = nI ρ.2.2.2.2.2.2 ∧ (∀ j, j < ρ.2.2.2.1.length → cd j = ρ.2.2.2.1.getD j 0)
def RX (ρ : RS) (L : Nat) (tp : Nat → Int32) (h : am_H) : Prop := ∃ r cd, RD r (nI L) tp cd h ∧ RM ρ r cd
def WR (L : Nat) (tp : Nat → Int32) (ρ : RS) : Prop := WFK L tp ρ.1 ∧ L ≤ 96 ∧ ρ.2.2.2.1.length ≤ 96 ∧ ρ.2.2.2.2.2.1 ≤ 8 ∧ ρ.2.2.2.2.2.2 ≤ 8 ∧ ∀ q, ρ.2.1 = some q → q ≤ 96
def flO (x : Option Nat) (f : Nat) : Option Nat := match x with
  | none => some f
  | some q => some q
def flF (ρ : RS) : RS := (ρ.1, flO ρ.2.1 ρ.1.2.1, ρ.2.2)
def emL (cs : List Int32) (c : Int32) : List Int32 := if cs.length < 96 then cs ++ [c] else cs
def emF (c : Int32) (ρ : RS) : RS := (ρ.1, ρ.2.1, ρ.2.2.1, emL ρ.2.2.2.1 c, ρ.2.2.2.2)
def eoF (c : Int32) (ρ : RS) : RS := (ρ.1, ρ.2.1, ρ.2.2.1, emL ρ.2.2.2.1 c, ρ.2.2.2.2.1 + 1, ρ.2.2.2.2.2)
def avF (L : Nat) (tp : Nat → Int32) (ρ : RS) : RS := (adv L tp ρ.1, ρ.2)
def obF (ρ : RS) (b : Nat) : RS := (ρ.1, ρ.2.1, ρ.2.2.1, ρ.2.2.2.1, ρ.2.2.2.2.1, b, ρ.2.2.2.2.2.2)
def ogF (ρ : RS) (g : Nat) : RS := (ρ.1, ρ.2.1, ρ.2.2.1, ρ.2.2.2.1, ρ.2.2.2.2.1, ρ.2.2.2.2.2.1, g)
def isSg (tp : Nat → Int32) (ρ : RS) (c : Int32) : Prop := ρ.2.1 = none ∧ ρ.1.1 = 3 ∧ tp ρ.1.2.1 = c
theorem em_cd {cs : List Int32} {cd : Nat → Int32} {c : Int32} (h : ∀ j, j < cs.length → cd j = cs.getD j 0) : ∀ j, j < (cs ++ [c]).length → upd cd cs.length c j = (cs ++ [c]).getD j 0 := fun j hj => by
  rw [List.length_append, List.length_singleton] at hj
  by_cases e : j = cs.length
  · subst e
    rw [pk_us, List.getD_eq_getElem?_getD, List.getElem?_append_right (Nat.le_refl _), Nat.sub_self]; rfl
  · rw [pk_un e, h j (by omega), List.getD_eq_getElem?_getD, List.getD_eq_getElem?_getD, List.getElem?_append_left (by omega)]
theorem fI_neg {x : Option Nat} (hx : ∀ q, x = some q → q ≤ 96) : (fI x < 0 ↔ x = none) := by
  cases x with
  | none => exact ⟨fun _ => rfl, fun _ => by decide⟩
  | some q => exact ⟨fun h => absurd h (nI_pos (by have z := hx q rfl; omega)), fun h => by cases h⟩
set_option maxHeartbeats 4000000 in
set_option maxRecDepth 100000 in
theorem r_fail {X : List Int32} {d rc rs n : Nat} {Q : am_Q} {h : am_H} {L : Nat} {tp : Nat → Int32} {ρ : RS} (H : RX ρ L tp h) (Wf : WR L tp ρ) (hq : ∀ h9, RX (flF ρ) L tp h9 → am_fp (fun k => k < 39 ∨ 43 ≤ k) h9 h → Q none n h9) : AW X mX1_fail (d + 2) rc rs 0 [some (.ref 39)] [] n h Q := by
  obtain ⟨r, cd, Rd, m1, m2, m3, m4, m5, m7, m8, m9, m10, mc⟩ := H
  obtain ⟨wk, w96, wcl, wob, wog, wft⟩ := id Wf
  have we := wk.1
  have wf := wk.2.1
  refine aw_aload_n (npc := 1) rfl dX1_fail_0 rfl ?_
  refine aw_get (npc := 4) dX1_fail_1 rfl kf_X1_28 Rd.1 rfl ?_
  refine aw_top (y := fI ρ.2.1) (m4) ?_
  refine aw_if_ge (npc := 7) (tgt := 15) dX1_fail_4 rfl (by decide) (fun hc1 => ?_) (fun hc1 => ?_)
  · refine aw_vret rfl dX1_fail_15 ?_
    have ef := (fI_neg wft)
    cases eft : ρ.2.1 with
    | none => exact absurd hc1 (by rw [eft]; decide)
    | some q9 => exact hq _ ⟨_, _, Rd, m1, m2, m3, m4.trans (by show fI ρ.2.1 = fI (flO ρ.2.1 ρ.1.2.1); rw [eft]; rfl), m5, m7, m8, m9, m10, mc⟩ am_fp0
  · refine aw_aload_n (npc := 8) rfl dX1_fail_7 rfl ?_
    refine aw_aload_n (npc := 9) rfl dX1_fail_8 rfl ?_
    refine aw_get (npc := 12) dX1_fail_9 rfl kf_X1_25 Rd.1 rfl ?_
    refine aw_top (y := nI ρ.1.2.1) (m3) ?_
    refine aw_put (npc := 15) dX1_fail_12 rfl kf_X1_28 Rd.1 (Nat.le_of_ble_eq_true rfl) (am_ok_int _) rfl ?_
    have Rd2 := rd_r4 (v := nI ρ.1.2.1) Rd
    refine aw_vret rfl dX1_fail_15 ?_
    have ef := (fI_neg wft)
    have en := ef.mp (Int32.not_le.mp hc1)
    exact hq _ ⟨_, _, Rd2, (((pk_un (by omega))).trans m1), (((pk_un (by omega))).trans m2), (((pk_un (by omega))).trans m3), ((pk_us).trans (show nI ρ.1.2.1 = fI (flO ρ.2.1 ρ.1.2.1) by rw [en]; rfl)), (((pk_un (by omega))).trans m5), (((pk_un (by omega))).trans m7), (((pk_un (by omega))).trans m8), (((pk_un (by omega))).trans m9), (((pk_un (by omega))).trans m10), mc⟩ (am_fpU (show ¬ (39 < 39 ∨ 43 ≤ 39) by omega) am_fp0)
set_option maxHeartbeats 4000000 in
set_option maxRecDepth 100000 in
theorem r_emit {X : List Int32} {d rc rs n : Nat} {Q : am_Q} {h : am_H} {L : Nat} {tp : Nat → Int32} {ρ : RS} {c : Int32} (H : RX ρ L tp h) (Wf : WR L tp ρ) (hq : ∀ h9, RX (emF c ρ) L tp h9 → am_fp (fun k => k < 39 ∨ 43 ≤ k) h9 h → Q none n h9) : AW X mX1_emit (d + 2) rc rs 0 [some (.ref 39), some (.int c)] [] n h Q := by
  obtain ⟨r, cd, Rd, m1, m2, m3, m4, m5, m7, m8, m9, m10, mc⟩ := H
  obtain ⟨wk, w96, wcl, wob, wog, wft⟩ := id Wf
  have we := wk.1
  have wf := wk.2.1
  refine aw_aload_n (npc := 1) rfl dX1_emit_0 rfl ?_
  refine aw_get (npc := 4) dX1_emit_1 rfl kf_X1_38 Rd.1 rfl ?_
  refine aw_top (y := nI ρ.2.2.2.1.length) (m7) ?_
  refine aw_bipush (npc := 6) (v := 96) (by decide) dX1_emit_4 rfl ?_
  refine aw_icmp_ge (npc := 9) (tgt := 29) dX1_emit_6 rfl (by decide) (fun hc1 => ?_) (fun hc1 => ?_)
  · have hc1N := (nI_leI (a := 96) (b := ρ.2.2.2.1.length) (by omega) (by omega)).mp hc1
    refine aw_vret rfl dX1_emit_29 ?_
    have e9 : emL ρ.2.2.2.1 c = ρ.2.2.2.1 := if_neg (by omega)
    exact hq _ ⟨_, _, Rd, m1, m2, m3, m4, m5, m7.trans (by rw [← e9]; rfl), m8, m9, m10, fun j hj => by have hj2 : j < (emL ρ.2.2.2.1 c).length := hj; rw [e9] at hj2; exact (mc j hj2).trans (congrArg (fun z : List Int32 => z.getD j 0) e9.symm)⟩ am_fp0
  · have hc1N : ¬ 96 ≤ ρ.2.2.2.1.length := fun z9q => hc1 ((nI_leI (a := 96) (b := ρ.2.2.2.1.length) (by omega) (by omega)).mpr z9q)
    refine aw_aload_n (npc := 10) rfl dX1_emit_9 rfl ?_
    refine aw_get (npc := 13) dX1_emit_10 rfl kf_X1_34 Rd.1 rfl ?_
    refine aw_aload_n (npc := 14) rfl dX1_emit_13 rfl ?_
    refine aw_get (npc := 17) dX1_emit_14 rfl kf_X1_38 Rd.1 rfl ?_
    refine aw_top (y := nI ρ.2.2.2.1.length) (m7) ?_
    refine aw_iload_n (npc := 18) rfl dX1_emit_17 rfl ?_
    refine aw_iast (npc := 19) (j := ρ.2.2.2.1.length) dX1_emit_18 rfl Rd.2.2.2 (am_ix_nI (by omega)) (by rw [tl_len]; omega) rfl ?_
    have Rd2 := rd_code (j := ρ.2.2.2.1.length) (v := c) Rd
    refine aw_aload_n (npc := 20) rfl dX1_emit_19 rfl ?_
    refine aw_dup (npc := 21) rfl dX1_emit_20 rfl ?_
    refine aw_get (npc := 24) dX1_emit_21 rfl kf_X1_38 Rd2.1 rfl ?_
    refine aw_top (y := nI ρ.2.2.2.1.length) (m7) ?_
    refine aw_iconst (npc := 25) (v := 1) (by decide) dX1_emit_24 rfl ?_
    refine aw_iaddV (npc := 26) (v := nI (ρ.2.2.2.1.length + 1)) dX1_emit_25 rfl (nI_add _ 1) ?_
    refine aw_put (npc := 29) dX1_emit_26 rfl kf_X1_38 Rd2.1 (Nat.le_of_ble_eq_true rfl) (am_ok_int _) rfl ?_
    have Rd3 := rd_r7 (v := nI (ρ.2.2.2.1.length + 1)) Rd2
    refine aw_vret rfl dX1_emit_29 ?_
    have e9 : emL ρ.2.2.2.1 c = ρ.2.2.2.1 ++ [c] := if_pos (by omega)
    exact hq _ ⟨_, _, Rd3, (((pk_un (by omega))).trans m1), (((pk_un (by omega))).trans m2), (((pk_un (by omega))).trans m3), (((pk_un (by omega))).trans m4), (((pk_un (by omega))).trans m5), ((pk_us).trans (show nI (ρ.2.2.2.1.length + 1) = nI (emL ρ.2.2.2.1 c).length by rw [e9, List.length_append, List.length_singleton])), (((pk_un (by omega))).trans m8), (((pk_un (by omega))).trans m9), (((pk_un (by omega))).trans m10), (fun j hj => by have hj2 : j < (emL ρ.2.2.2.1 c).length := hj; rw [e9] at hj2; exact (em_cd mc j hj2).trans (congrArg (fun z : List Int32 => z.getD j 0) e9.symm))⟩ (am_fpU (show ¬ (39 < 39 ∨ 43 ≤ 39) by omega) (am_fpU (show ¬ (42 < 39 ∨ 43 ≤ 42) by omega) am_fp0))
theorem so_le (b : Int32) : so b ≤ 4 := by
  rcases so_c b with h | h | h | h <;> omega
set_option maxHeartbeats 4000000 in
set_option maxRecDepth 100000 in
theorem r_sort {X : List Int32} {d rc rs n : Nat} {Q : am_Q} {h : am_H} {b : Int32} (hq : Q (some (.int (nI (so b)))) n h) : AW X mX1_sortOf d rc rs 0 [some (.int b)] [] n h Q := by
  refine aw_iload_n (npc := 1) rfl dX1_sortOf_0 rfl ?_
  refine aw_bipush (npc := 3) (v := 97) (by decide) dX1_sortOf_1 rfl ?_
  refine aw_icmp_lt (npc := 6) (tgt := 14) dX1_sortOf_3 rfl (by decide) (fun hc1 => ?_) (fun hc1 => ?_)
  · refine aw_iload_n (npc := 15) rfl dX1_sortOf_14 rfl ?_
    refine aw_bipush (npc := 17) (v := 48) (by decide) dX1_sortOf_15 rfl ?_
    refine aw_icmp_lt (npc := 20) (tgt := 28) dX1_sortOf_17 rfl (by decide) (fun hc2 => ?_) (fun hc2 => ?_)
    · refine aw_iload_n (npc := 29) rfl dX1_sortOf_28 rfl ?_
      refine aw_bipush (npc := 31) (v := 32) (by decide) dX1_sortOf_29 rfl ?_
      refine aw_icmp_ne (npc := 34) (tgt := 38) dX1_sortOf_31 rfl (by decide) (fun hc3 => ?_) (fun hc3 => ?_)
      · refine aw_iconst (npc := 39) (v := 3) (by decide) dX1_sortOf_38 rfl ?_
        refine aw_iret rfl dX1_sortOf_39 ?_
        exact (show nI (so b) = 3 by
          have e : so b = 3 := by
            unfold so
            rw [if_neg (fun z => absurd hc1 (Int32.not_lt.mpr z.1)), if_neg (fun z => absurd hc2 (Int32.not_lt.mpr z.1)), if_neg hc3]
          rw [e]; rfl) ▸ hq
      · refine aw_iconst (npc := 35) (v := 4) (by decide) dX1_sortOf_34 rfl ?_
        refine aw_goto (npc := 39) dX1_sortOf_35 (by decide) ?_
        refine aw_iret rfl dX1_sortOf_39 ?_
        exact (show nI (so b) = 4 by
          have e : so b = 4 := by
            unfold so
            rw [if_neg (fun z => absurd hc1 (Int32.not_lt.mpr z.1)), if_neg (fun z => absurd hc2 (Int32.not_lt.mpr z.1)), if_pos hc3]
          rw [e]; rfl) ▸ hq
    · refine aw_iload_n (npc := 21) rfl dX1_sortOf_20 rfl ?_
      refine aw_bipush (npc := 23) (v := 57) (by decide) dX1_sortOf_21 rfl ?_
      refine aw_icmp_gt (npc := 26) (tgt := 28) dX1_sortOf_23 rfl (by decide) (fun hc4 => ?_) (fun hc4 => ?_)
      · refine aw_iload_n (npc := 29) rfl dX1_sortOf_28 rfl ?_
        refine aw_bipush (npc := 31) (v := 32) (by decide) dX1_sortOf_29 rfl ?_
        refine aw_icmp_ne (npc := 34) (tgt := 38) dX1_sortOf_31 rfl (by decide) (fun hc5 => ?_) (fun hc5 => ?_)
        · refine aw_iconst (npc := 39) (v := 3) (by decide) dX1_sortOf_38 rfl ?_
          refine aw_iret rfl dX1_sortOf_39 ?_
          exact (show nI (so b) = 3 by
            have e : so b = 3 := by
              unfold so
              rw [if_neg (fun z => absurd hc1 (Int32.not_lt.mpr z.1)), if_neg (fun z => absurd hc4 (Int32.not_lt.mpr z.2)), if_neg hc5]
            rw [e]; rfl) ▸ hq
        · refine aw_iconst (npc := 35) (v := 4) (by decide) dX1_sortOf_34 rfl ?_
          refine aw_goto (npc := 39) dX1_sortOf_35 (by decide) ?_
          refine aw_iret rfl dX1_sortOf_39 ?_
          exact (show nI (so b) = 4 by
            have e : so b = 4 := by
              unfold so
              rw [if_neg (fun z => absurd hc1 (Int32.not_lt.mpr z.1)), if_neg (fun z => absurd hc4 (Int32.not_lt.mpr z.2)), if_pos hc5]
            rw [e]; rfl) ▸ hq
      · refine aw_iconst (npc := 27) (v := 2) (by decide) dX1_sortOf_26 rfl ?_
        refine aw_iret rfl dX1_sortOf_27 ?_
        exact (show nI (so b) = 2 by
          have e : so b = 2 := by
            unfold so
            rw [if_neg (fun z => absurd hc1 (Int32.not_lt.mpr z.1)), if_pos ⟨Int32.not_lt.mp hc2, Int32.not_lt.mp hc4⟩]
          rw [e]; rfl) ▸ hq
  · refine aw_iload_n (npc := 7) rfl dX1_sortOf_6 rfl ?_
    refine aw_bipush (npc := 9) (v := 122) (by decide) dX1_sortOf_7 rfl ?_
    refine aw_icmp_gt (npc := 12) (tgt := 14) dX1_sortOf_9 rfl (by decide) (fun hc6 => ?_) (fun hc6 => ?_)
    · refine aw_iload_n (npc := 15) rfl dX1_sortOf_14 rfl ?_
      refine aw_bipush (npc := 17) (v := 48) (by decide) dX1_sortOf_15 rfl ?_
      refine aw_icmp_lt (npc := 20) (tgt := 28) dX1_sortOf_17 rfl (by decide) (fun hc7 => ?_) (fun hc7 => ?_)
      · refine aw_iload_n (npc := 29) rfl dX1_sortOf_28 rfl ?_
        refine aw_bipush (npc := 31) (v := 32) (by decide) dX1_sortOf_29 rfl ?_
        refine aw_icmp_ne (npc := 34) (tgt := 38) dX1_sortOf_31 rfl (by decide) (fun hc8 => ?_) (fun hc8 => ?_)
        · refine aw_iconst (npc := 39) (v := 3) (by decide) dX1_sortOf_38 rfl ?_
          refine aw_iret rfl dX1_sortOf_39 ?_
          exact (show nI (so b) = 3 by
            have e : so b = 3 := by
              unfold so
              rw [if_neg (fun z => absurd hc6 (Int32.not_lt.mpr z.2)), if_neg (fun z => absurd hc7 (Int32.not_lt.mpr z.1)), if_neg hc8]
            rw [e]; rfl) ▸ hq
        · refine aw_iconst (npc := 35) (v := 4) (by decide) dX1_sortOf_34 rfl ?_
          refine aw_goto (npc := 39) dX1_sortOf_35 (by decide) ?_
          refine aw_iret rfl dX1_sortOf_39 ?_
          exact (show nI (so b) = 4 by
            have e : so b = 4 := by
              unfold so
              rw [if_neg (fun z => absurd hc6 (Int32.not_lt.mpr z.2)), if_neg (fun z => absurd hc7 (Int32.not_lt.mpr z.1)), if_pos hc8]
            rw [e]; rfl) ▸ hq
      · refine aw_iload_n (npc := 21) rfl dX1_sortOf_20 rfl ?_
        refine aw_bipush (npc := 23) (v := 57) (by decide) dX1_sortOf_21 rfl ?_
        refine aw_icmp_gt (npc := 26) (tgt := 28) dX1_sortOf_23 rfl (by decide) (fun hc9 => ?_) (fun hc9 => ?_)
        · refine aw_iload_n (npc := 29) rfl dX1_sortOf_28 rfl ?_
          refine aw_bipush (npc := 31) (v := 32) (by decide) dX1_sortOf_29 rfl ?_
          refine aw_icmp_ne (npc := 34) (tgt := 38) dX1_sortOf_31 rfl (by decide) (fun hc10 => ?_) (fun hc10 => ?_)
          · refine aw_iconst (npc := 39) (v := 3) (by decide) dX1_sortOf_38 rfl ?_
            refine aw_iret rfl dX1_sortOf_39 ?_
            exact (show nI (so b) = 3 by
              have e : so b = 3 := by
                unfold so
                rw [if_neg (fun z => absurd hc6 (Int32.not_lt.mpr z.2)), if_neg (fun z => absurd hc9 (Int32.not_lt.mpr z.2)), if_neg hc10]
              rw [e]; rfl) ▸ hq
          · refine aw_iconst (npc := 35) (v := 4) (by decide) dX1_sortOf_34 rfl ?_
            refine aw_goto (npc := 39) dX1_sortOf_35 (by decide) ?_
            refine aw_iret rfl dX1_sortOf_39 ?_
            exact (show nI (so b) = 4 by
              have e : so b = 4 := by
                unfold so
                rw [if_neg (fun z => absurd hc6 (Int32.not_lt.mpr z.2)), if_neg (fun z => absurd hc9 (Int32.not_lt.mpr z.2)), if_pos hc10]
              rw [e]; rfl) ▸ hq
        · refine aw_iconst (npc := 27) (v := 2) (by decide) dX1_sortOf_26 rfl ?_
          refine aw_iret rfl dX1_sortOf_27 ?_
          exact (show nI (so b) = 2 by
            have e : so b = 2 := by
              unfold so
              rw [if_neg (fun z => absurd hc6 (Int32.not_lt.mpr z.2)), if_pos ⟨Int32.not_lt.mp hc7, Int32.not_lt.mp hc9⟩]
            rw [e]; rfl) ▸ hq
    · refine aw_iconst (npc := 13) (v := 1) (by decide) dX1_sortOf_12 rfl ?_
      refine aw_iret rfl dX1_sortOf_13 ?_
      exact (show nI (so b) = 1 by
        have e : so b = 1 := by
          unfold so
          rw [if_pos ⟨Int32.not_lt.mp hc1, Int32.not_lt.mp hc6⟩]
        rw [e]; rfl) ▸ hq
set_option maxHeartbeats 4000000 in
set_option maxRecDepth 100000 in
theorem r_bl {X : List Int32} {d rc rs n : Nat} {Q : am_Q} {L : Nat} {tp cd : Nat → Int32} {v1 v2 : Int32} {v3 : Option Value} (hL : L ≤ 96) : ∀ (m i : Nat), i + m = L → ∀ (r : Nat → Int32) (h : am_H), RD r (nI L) tp cd h → r 1 = nI i → (∀ r9 h9, r9 1 = nI (sk L tp i) → (∀ k, k ≠ 1 → r9 k = r k) → RD r9 (nI L) tp cd h9 → am_fp (fun k => k < 39 ∨ 43 ≤ k) h9 h → AW X mX1_advance (d + 4) rc rs 71 [some (.ref 39), some (.int v1), some (.int v2), v3] [] n h9 Q) → AW X mX1_advance (d + 4) rc rs 27 [some (.ref 39), some (.int v1), some (.int v2), v3] [] n h Q := by
  intro m
  induction m with
  | zero =>
    intro i hi r h Rd h1 hq
    obtain rfl : i = L := by omega
    refine aw_aload_n (npc := 28) rfl dX1_advance_27 rfl ?_
    refine aw_get (npc := 31) dX1_advance_28 rfl kf_X1_18 Rd.1 rfl ?_
    refine aw_top (y := nI i) (h1) ?_
    refine aw_aload_n (npc := 32) rfl dX1_advance_31 rfl ?_
    refine aw_get (npc := 35) dX1_advance_32 rfl kf_X1_12 Rd.1 rfl ?_
    refine aw_get (npc := 38) dX1_advance_35 rfl kf_X1_73 Rd.2.1 rfl ?_
    refine aw_icmp_ge (npc := 41) (tgt := 71) dX1_advance_38 rfl (by decide) (fun _ => ?_) (fun hc => absurd (nI_le (a := i) (b := i) (by omega) (by omega)) hc)
    exact hq r h (h1.trans (congrArg nI (sk_e (Or.inl (by omega))).symm)) (fun _ _ => rfl) Rd am_fp0
  | succ m ih =>
    intro i hi r h Rd h1 hq
    refine aw_aload_n (npc := 28) rfl dX1_advance_27 rfl ?_
    refine aw_get (npc := 31) dX1_advance_28 rfl kf_X1_18 Rd.1 rfl ?_
    refine aw_top (y := nI i) (h1) ?_
    refine aw_aload_n (npc := 32) rfl dX1_advance_31 rfl ?_
    refine aw_get (npc := 35) dX1_advance_32 rfl kf_X1_12 Rd.1 rfl ?_
    refine aw_get (npc := 38) dX1_advance_35 rfl kf_X1_73 Rd.2.1 rfl ?_
    refine aw_icmp_ge (npc := 41) (tgt := 71) dX1_advance_38 rfl (by decide) (fun hc => absurd hc (nI_ge (a := i) (b := L) (by omega) (by omega))) (fun _ => ?_)
    refine aw_aload_n (npc := 42) rfl dX1_advance_41 rfl ?_
    refine aw_get (npc := 45) dX1_advance_42 rfl kf_X1_12 Rd.1 rfl ?_
    refine aw_get (npc := 48) dX1_advance_45 rfl kf_X1_76 Rd.2.1 rfl ?_
    refine aw_aload_n (npc := 49) rfl dX1_advance_48 rfl ?_
    refine aw_get (npc := 52) dX1_advance_49 rfl kf_X1_18 Rd.1 rfl ?_
    refine aw_top (y := nI i) (h1) ?_
    refine aw_iald (npc := 53) (x := tp i) (j := i) dX1_advance_52 rfl Rd.2.2.1 (am_ix_nI (by omega)) (tl_at (by omega)) ?_
    refine aw_bipush (npc := 55) (v := 32) (by decide) dX1_advance_53 rfl ?_
    refine aw_icmp_ne (npc := 58) (tgt := 71) dX1_advance_55 rfl (by decide) (fun hc2 => ?_) (fun hc2 => ?_)
    · exact hq r h (h1.trans (congrArg nI (sk_e (Or.inr hc2)).symm)) (fun _ _ => rfl) Rd am_fp0
    · refine aw_aload_n (npc := 59) rfl dX1_advance_58 rfl ?_
      refine aw_dup (npc := 60) rfl dX1_advance_59 rfl ?_
      refine aw_get (npc := 63) dX1_advance_60 rfl kf_X1_18 Rd.1 rfl ?_
      refine aw_top (y := nI i) (h1) ?_
      refine aw_iconst (npc := 64) (v := 1) (by decide) dX1_advance_63 rfl ?_
      refine aw_iaddV (npc := 65) (v := nI (i + 1)) dX1_advance_64 rfl (nI_add _ 1) ?_
      refine aw_put (npc := 68) dX1_advance_65 rfl kf_X1_18 Rd.1 (Nat.le_of_ble_eq_true rfl) (am_ok_int _) rfl ?_
      have Rd3 := rd_r1 (v := nI (i + 1)) Rd
      refine aw_goto (npc := 27) dX1_advance_68 (by decide) ?_
      refine ih (i + 1) (by omega) _ _ Rd3 pk_us (fun r9 h9 q1 q2 F9 f9 => hq r9 h9 (q1.trans ?_) (fun k hk => (q2 k hk).trans (pk_un hk)) F9 (am_fpT f9 (am_fpU (show ¬ (39 < 39 ∨ 43 ≤ 39) by omega) am_fp0)))
      exact congrArg nI (sk_s (by omega) hc2).symm
set_option maxHeartbeats 4000000 in
set_option maxRecDepth 100000 in
theorem r_wl {X : List Int32} {d rc rs n : Nat} {Q : am_Q} {L : Nat} {tp cd : Nat → Int32} {v1 v2 : Int32} {v3 : Option Value} (hL : L ≤ 96) {t : Nat} (ht6 : t ≤ 5) : ∀ (m i : Nat), i + m = L → ∀ (r : Nat → Int32) (h : am_H), RD r (nI L) tp cd h → r 1 = nI i → r 2 = nI t → (∀ r9 h9, r9 1 = nI (rn L tp t i) → (∀ k, k ≠ 1 → r9 k = r k) → RD r9 (nI L) tp cd h9 → am_fp (fun k => k < 39 ∨ 43 ≤ k) h9 h → AW X mX1_advance (d + 4) rc rs 186 [some (.ref 39), some (.int v1), some (.int v2), v3] [] n h9 Q) → AW X mX1_advance (d + 4) rc rs 137 [some (.ref 39), some (.int v1), some (.int v2), v3] [] n h Q := by
  intro m
  induction m with
  | zero =>
    intro i hi r h Rd h1 h2 hq
    obtain rfl : i = L := by omega
    refine aw_aload_n (npc := 138) rfl dX1_advance_137 rfl ?_
    refine aw_get (npc := 141) dX1_advance_138 rfl kf_X1_18 Rd.1 rfl ?_
    refine aw_top (y := nI i) (h1) ?_
    refine aw_aload_n (npc := 142) rfl dX1_advance_141 rfl ?_
    refine aw_get (npc := 145) dX1_advance_142 rfl kf_X1_12 Rd.1 rfl ?_
    refine aw_get (npc := 148) dX1_advance_145 rfl kf_X1_73 Rd.2.1 rfl ?_
    refine aw_icmp_ge (npc := 151) (tgt := 186) dX1_advance_148 rfl (by decide) (fun _ => ?_) (fun hc => absurd (nI_le (a := i) (b := i) (by omega) (by omega)) hc)
    exact hq r h (h1.trans (congrArg nI (rn_e (Or.inl (by omega))).symm)) (fun _ _ => rfl) Rd am_fp0
  | succ m ih =>
    intro i hi r h Rd h1 h2 hq
    refine aw_aload_n (npc := 138) rfl dX1_advance_137 rfl ?_
    refine aw_get (npc := 141) dX1_advance_138 rfl kf_X1_18 Rd.1 rfl ?_
    refine aw_top (y := nI i) (h1) ?_
    refine aw_aload_n (npc := 142) rfl dX1_advance_141 rfl ?_
    refine aw_get (npc := 145) dX1_advance_142 rfl kf_X1_12 Rd.1 rfl ?_
    refine aw_get (npc := 148) dX1_advance_145 rfl kf_X1_73 Rd.2.1 rfl ?_
    refine aw_icmp_ge (npc := 151) (tgt := 186) dX1_advance_148 rfl (by decide) (fun hc => absurd hc (nI_ge (a := i) (b := L) (by omega) (by omega))) (fun _ => ?_)
    refine aw_aload_n (npc := 152) rfl dX1_advance_151 rfl ?_
    refine aw_get (npc := 155) dX1_advance_152 rfl kf_X1_12 Rd.1 rfl ?_
    refine aw_get (npc := 158) dX1_advance_155 rfl kf_X1_76 Rd.2.1 rfl ?_
    refine aw_aload_n (npc := 159) rfl dX1_advance_158 rfl ?_
    refine aw_get (npc := 162) dX1_advance_159 rfl kf_X1_18 Rd.1 rfl ?_
    refine aw_top (y := nI i) (h1) ?_
    refine aw_iald (npc := 163) (x := tp i) (j := i) dX1_advance_162 rfl Rd.2.2.1 (am_ix_nI (by omega)) (tl_at (by omega)) ?_
    refine aw_callS (npc := 166) (N := mX1_sortOf) (mc := 0) (ms := 0) (A := [.int (tp i)]) (S := []) (L0 := [some (.int (tp i))]) dX1_advance_163 rfl km_X1_sortOf kk_X1_79 rfl ⟨rfl, by decide⟩ rfl (Nat.le_of_ble_eq_true rfl) (Nat.zero_add _) (Nat.zero_add _) rfl ?_
    refine r_sort ?_
    have hso2 := so_le (tp i)
    refine aw_re (S' := [.int (nI (so (tp i)))]) rfl ?_
    refine aw_aload_n (npc := 167) rfl dX1_advance_166 rfl ?_
    refine aw_get (npc := 170) dX1_advance_167 rfl kf_X1_22 Rd.1 rfl ?_
    refine aw_top (y := nI t) (h2) ?_
    refine aw_icmp_ne (npc := 173) (tgt := 186) dX1_advance_170 rfl (by decide) (fun hc3 => ?_) (fun hc3 => ?_)
    · have hc3N : ¬ (so (tp i)) = t := fun z9q => hc3 ((nI_eq (a := (so (tp i))) (b := t) (by omega) (by omega)).mpr z9q)
      exact hq r h (h1.trans (congrArg nI (rn_e (Or.inr hc3N)).symm)) (fun _ _ => rfl) Rd am_fp0
    · have hc3N := (nI_eq (a := (so (tp i))) (b := t) (by omega) (by omega)).mp hc3
      refine aw_aload_n (npc := 174) rfl dX1_advance_173 rfl ?_
      refine aw_dup (npc := 175) rfl dX1_advance_174 rfl ?_
      refine aw_get (npc := 178) dX1_advance_175 rfl kf_X1_18 Rd.1 rfl ?_
      refine aw_top (y := nI i) (h1) ?_
      refine aw_iconst (npc := 179) (v := 1) (by decide) dX1_advance_178 rfl ?_
      refine aw_iaddV (npc := 180) (v := nI (i + 1)) dX1_advance_179 rfl (nI_add _ 1) ?_
      refine aw_put (npc := 183) dX1_advance_180 rfl kf_X1_18 Rd.1 (Nat.le_of_ble_eq_true rfl) (am_ok_int _) rfl ?_
      have Rd4 := rd_r1 (v := nI (i + 1)) Rd
      refine aw_goto (npc := 137) dX1_advance_183 (by decide) ?_
      refine ih (i + 1) (by omega) _ _ Rd4 pk_us ((pk_un (by decide)).trans h2) (fun r9 h9 q1 q2 F9 f9 => hq r9 h9 (q1.trans ?_) (fun k hk => (q2 k hk).trans (pk_un hk)) F9 (am_fpT f9 (am_fpU (show ¬ (39 < 39 ∨ 43 ≤ 39) by omega) am_fp0)))
      exact congrArg nI (rn_s (by omega) hc3N).symm
set_option maxHeartbeats 4000000 in
set_option maxRecDepth 100000 in
theorem r_adv {X : List Int32} {d rc rs n : Nat} {Q : am_Q} {h : am_H} {L : Nat} {tp : Nat → Int32} {ρ : RS} (H : RX ρ L tp h) (Wf : WR L tp ρ) (hq : ∀ h9, RX (avF L tp ρ) L tp h9 → am_fp (fun k => k < 39 ∨ 43 ≤ k) h9 h → Q none n h9) : AW X mX1_advance (d + 4) rc rs 0 [some (.ref 39), none, none, none] [] n h Q := by
  obtain ⟨r, cd, Rd, m1, m2, m3, m4, m5, m7, m8, m9, m10, mc⟩ := H
  obtain ⟨wk, w96, wcl, wob, wog, wft⟩ := id Wf
  have we := wk.1
  have wf := wk.2.1
  have wt := wk.2.2.1
  refine aw_aload_n (npc := 1) rfl dX1_advance_0 rfl ?_
  refine aw_get (npc := 4) dX1_advance_1 rfl kf_X1_18 Rd.1 rfl ?_
  refine aw_top (y := nI ρ.1.2.2) (m1) ?_
  refine aw_istore_n (npc := 5) (L' := [some (.ref 39), some (.int (nI ρ.1.2.2)), none, none]) dX1_advance_4 rfl (by decide) rfl rfl ?_
  refine aw_aload_n (npc := 6) rfl dX1_advance_5 rfl ?_
  refine aw_get (npc := 9) dX1_advance_6 rfl kf_X1_22 Rd.1 rfl ?_
  refine aw_top (y := nI ρ.1.1) (m2) ?_
  refine aw_iconst (npc := 10) (v := 1) (by decide) dX1_advance_9 rfl ?_
  refine aw_icmp_eq (npc := 13) (tgt := 21) dX1_advance_10 rfl (by decide) (fun hc1 => ?_) (fun hc1 => ?_)
  · have hc1N := (nI_eq (a := ρ.1.1) (b := 1) (by omega) (by omega)).mp hc1
    refine aw_iconst (npc := 22) (v := 1) (by decide) dX1_advance_21 rfl ?_
    refine aw_goto (npc := 26) dX1_advance_22 (by decide) ?_
    refine aw_istore_n (npc := 27) (L' := [some (.ref 39), some (.int (nI ρ.1.2.2)), some (.int 1), none]) dX1_advance_26 rfl (by decide) rfl rfl ?_
    have hwd : wd ρ.1 = true := decide_eq_true (Or.inl hc1N)
    refine r_bl w96 (L - ρ.1.2.2) ρ.1.2.2 (by omega) _ _ Rd m1 (fun r1 h1 q1 q2 Rd1 f1 => ?_)
    have hsk := skB_p (tp := tp) (L - ρ.1.2.2) ρ.1.2.2
    have hsk1 : ρ.1.2.2 ≤ sk L tp ρ.1.2.2 := hsk.1
    have hsk2 : sk L tp ρ.1.2.2 ≤ L := by have z := hsk.2.1; show skB tp (L - ρ.1.2.2) ρ.1.2.2 ≤ L; omega
    refine aw_aload_n (npc := 72) rfl dX1_advance_71 rfl ?_
    refine aw_aload_n (npc := 73) rfl dX1_advance_72 rfl ?_
    refine aw_get (npc := 76) dX1_advance_73 rfl kf_X1_18 Rd1.1 rfl ?_
    refine aw_top (y := nI (sk L tp ρ.1.2.2)) (q1) ?_
    refine aw_put (npc := 79) dX1_advance_76 rfl kf_X1_25 Rd1.1 (Nat.le_of_ble_eq_true rfl) (am_ok_int _) rfl ?_
    have Rd2 := rd_r3 (v := nI (sk L tp ρ.1.2.2)) Rd1
    refine aw_aload_n (npc := 80) rfl dX1_advance_79 rfl ?_
    refine aw_get (npc := 83) dX1_advance_80 rfl kf_X1_18 Rd2.1 rfl ?_
    refine aw_top (y := r1 1) ((pk_un (by omega))) ?_
    refine aw_top (y := nI (sk L tp ρ.1.2.2)) (q1) ?_
    refine aw_aload_n (npc := 84) rfl dX1_advance_83 rfl ?_
    refine aw_get (npc := 87) dX1_advance_84 rfl kf_X1_12 Rd2.1 rfl ?_
    refine aw_get (npc := 90) dX1_advance_87 rfl kf_X1_73 Rd2.2.1 rfl ?_
    refine aw_icmp_lt (npc := 93) (tgt := 99) dX1_advance_90 rfl (by decide) (fun hc3 => ?_) (fun hc3 => ?_)
    · have hc3N := (nI_ltI (a := (sk L tp ρ.1.2.2)) (b := L) (by omega) (by omega)).mp hc3
      refine aw_aload_n (npc := 100) rfl dX1_advance_99 rfl ?_
      refine aw_aload_n (npc := 101) rfl dX1_advance_100 rfl ?_
      refine aw_get (npc := 104) dX1_advance_101 rfl kf_X1_12 Rd2.1 rfl ?_
      refine aw_get (npc := 107) dX1_advance_104 rfl kf_X1_76 Rd2.2.1 rfl ?_
      refine aw_aload_n (npc := 108) rfl dX1_advance_107 rfl ?_
      refine aw_get (npc := 111) dX1_advance_108 rfl kf_X1_18 Rd2.1 rfl ?_
      refine aw_top (y := r1 1) ((pk_un (by omega))) ?_
      refine aw_top (y := nI (sk L tp ρ.1.2.2)) (q1) ?_
      refine aw_iald (npc := 112) (x := tp (sk L tp ρ.1.2.2)) (j := (sk L tp ρ.1.2.2)) dX1_advance_111 rfl Rd2.2.2.1 (am_ix_nI (by omega)) (tl_at (by omega)) ?_
      refine aw_callS (npc := 115) (N := mX1_sortOf) (mc := 0) (ms := 0) (A := [.int (tp (sk L tp ρ.1.2.2))]) (S := [.ref 39]) (L0 := [some (.int (tp (sk L tp ρ.1.2.2)))]) dX1_advance_112 rfl km_X1_sortOf kk_X1_79 rfl ⟨rfl, by decide⟩ rfl (Nat.le_of_ble_eq_true rfl) (Nat.zero_add _) (Nat.zero_add _) rfl ?_
      refine r_sort ?_
      have hso4 := so_le (tp (sk L tp ρ.1.2.2))
      refine aw_re (S' := [.int (nI (so (tp (sk L tp ρ.1.2.2)))), .ref 39]) rfl ?_
      refine aw_put (npc := 118) dX1_advance_115 rfl kf_X1_22 Rd2.1 (Nat.le_of_ble_eq_true rfl) (am_ok_int _) rfl ?_
      have Rd5 := rd_r2 (v := nI (so (tp (sk L tp ρ.1.2.2)))) Rd2
      refine aw_aload_n (npc := 119) rfl dX1_advance_118 rfl ?_
      refine aw_dup (npc := 120) rfl dX1_advance_119 rfl ?_
      refine aw_get (npc := 123) dX1_advance_120 rfl kf_X1_18 Rd5.1 rfl ?_
      refine aw_top (y := r1 1) (((pk_un (by omega))).trans (pk_un (by omega))) ?_
      refine aw_top (y := nI (sk L tp ρ.1.2.2)) (q1) ?_
      refine aw_iconst (npc := 124) (v := 1) (by decide) dX1_advance_123 rfl ?_
      refine aw_iaddV (npc := 125) (v := nI ((sk L tp ρ.1.2.2) + 1)) dX1_advance_124 rfl (nI_add _ 1) ?_
      refine aw_put (npc := 128) dX1_advance_125 rfl kf_X1_18 Rd5.1 (Nat.le_of_ble_eq_true rfl) (am_ok_int _) rfl ?_
      have Rd6 := rd_r1 (v := nI ((sk L tp ρ.1.2.2) + 1)) Rd5
      refine aw_aload_n (npc := 129) rfl dX1_advance_128 rfl ?_
      refine aw_get (npc := 132) dX1_advance_129 rfl kf_X1_22 Rd6.1 rfl ?_
      refine aw_top (y := nI (so (tp (sk L tp ρ.1.2.2)))) (((pk_un (by omega))).trans pk_us) ?_
      refine aw_iconst (npc := 133) (v := 3) (by decide) dX1_advance_132 rfl ?_
      refine aw_icmp_ne (npc := 136) (tgt := 137) dX1_advance_133 rfl (by decide) (fun hc7 => ?_) (fun hc7 => ?_)
      · have hc7N : ¬ (so (tp (sk L tp ρ.1.2.2))) = 3 := fun z9q => hc7 ((nI_eq (a := (so (tp (sk L tp ρ.1.2.2)))) (b := 3) (by omega) (by omega)).mpr z9q)
        have hso2 : so (tp (sk L tp ρ.1.2.2)) ≤ 4 := so_le _
        refine r_wl (t := so (tp (sk L tp ρ.1.2.2))) w96 (by omega) (L - (sk L tp ρ.1.2.2 + 1)) (sk L tp ρ.1.2.2 + 1) (by omega) _ _ Rd6 pk_us (((pk_un (by decide)).trans pk_us)) (fun r2 h2 p1 p2 Rd2 f2 => ?_)
        have hrn := rnB_p (tp := tp) (t := so (tp (sk L tp ρ.1.2.2))) (L - (sk L tp ρ.1.2.2 + 1)) (sk L tp ρ.1.2.2 + 1)
        have hrn1 : sk L tp ρ.1.2.2 + 1 ≤ rn L tp (so (tp (sk L tp ρ.1.2.2))) (sk L tp ρ.1.2.2 + 1) := hrn.1
        have hrn2 : rn L tp (so (tp (sk L tp ρ.1.2.2))) (sk L tp ρ.1.2.2 + 1) ≤ L := by have z := hrn.2.1; show rnB tp _ (L - (sk L tp ρ.1.2.2 + 1)) (sk L tp ρ.1.2.2 + 1) ≤ L; omega
        have p22 : r2 2 = nI (so (tp (sk L tp ρ.1.2.2))) := (p2 2 (by decide)).trans ((pk_un (by decide)).trans pk_us)
        have p23 : r2 3 = nI (sk L tp ρ.1.2.2) := (p2 3 (by decide)).trans ((pk_un (by decide)).trans ((pk_un (by decide)).trans pk_us))
        refine aw_iload_n (npc := 187) rfl dX1_advance_186 rfl ?_
        refine aw_if_eq (npc := 190) (tgt := 202) dX1_advance_187 rfl (by decide) (fun hc => absurd hc (by decide)) (fun _ => ?_)
        refine aw_aload_n (npc := 191) rfl dX1_advance_190 rfl ?_
        refine aw_get (npc := 194) dX1_advance_191 rfl kf_X1_25 Rd2.1 rfl ?_
        refine aw_top (y := nI (sk L tp ρ.1.2.2)) (p23) ?_
        refine aw_iload_n (npc := 195) rfl dX1_advance_194 rfl ?_
        refine aw_icmp_ne (npc := 198) (tgt := 202) dX1_advance_195 rfl (by decide) (fun hc8 => ?_) (fun hc8 => ?_)
        · have hc8N : ¬ (sk L tp ρ.1.2.2) = ρ.1.2.2 := fun z9q => hc8 ((nI_eq (a := (sk L tp ρ.1.2.2)) (b := ρ.1.2.2) (by omega) (by omega)).mpr z9q)
          refine aw_iconst (npc := 203) (v := 0) (by decide) dX1_advance_202 rfl ?_
          refine aw_istore_n (npc := 204) (L' := [some (.ref 39), some (.int (nI ρ.1.2.2)), some (.int 1), some (.int 0)]) dX1_advance_203 rfl (by decide) rfl rfl ?_
          refine aw_iload_n (npc := 205) rfl dX1_advance_204 rfl ?_
          refine aw_if_ne (npc := 208) (tgt := 229) dX1_advance_205 rfl (by decide) (fun hc => absurd (by decide) hc) (fun _ => ?_)
          refine aw_aload_n (npc := 209) rfl dX1_advance_208 rfl ?_
          refine aw_get (npc := 212) dX1_advance_209 rfl kf_X1_22 Rd2.1 rfl ?_
          refine aw_top (y := nI (so (tp (sk L tp ρ.1.2.2)))) (p22) ?_
          refine aw_iconst (npc := 213) (v := 2) (by decide) dX1_advance_212 rfl ?_
          refine aw_icmp_ne (npc := 216) (tgt := 234) dX1_advance_213 rfl (by decide) (fun hc9 => ?_) (fun hc9 => ?_)
          · have hc9N : ¬ (so (tp (sk L tp ρ.1.2.2))) = 2 := fun z9q => hc9 ((nI_eq (a := (so (tp (sk L tp ρ.1.2.2)))) (b := 2) (by omega) (by omega)).mpr z9q)
            refine aw_vret rfl dX1_advance_234 ?_
            have ea : adv L tp ρ.1 = (so (tp (sk L tp ρ.1.2.2)), sk L tp ρ.1.2.2, rn L tp (so (tp (sk L tp ρ.1.2.2))) (sk L tp ρ.1.2.2 + 1)) := by
              unfold adv nx
              rw [hwd, if_neg (show ¬ L ≤ sk L tp ρ.1.2.2 by omega), if_neg hc7N]
              exact if_neg (fun z => z.elim (fun z => hc8N z.2) (fun y => hc9N y.1))
            exact hq _ ⟨_, _, Rd2, ((p1).trans (show nI (rn L tp (so (tp (sk L tp ρ.1.2.2))) (sk L tp ρ.1.2.2 + 1)) = nI (adv L tp ρ.1).2.2 by rw [ea])), ((p22).trans (show nI (so (tp (sk L tp ρ.1.2.2))) = nI (adv L tp ρ.1).1 by rw [ea])), ((p23).trans (show nI (sk L tp ρ.1.2.2) = nI (adv L tp ρ.1).2.1 by rw [ea])), (((p2 4 (by decide)).trans ((pk_un (by decide)).trans ((pk_un (by decide)).trans ((pk_un (by decide)).trans (q2 4 (by decide)))))).trans m4), (((p2 5 (by decide)).trans ((pk_un (by decide)).trans ((pk_un (by decide)).trans ((pk_un (by decide)).trans (q2 5 (by decide)))))).trans m5), (((p2 7 (by decide)).trans ((pk_un (by decide)).trans ((pk_un (by decide)).trans ((pk_un (by decide)).trans (q2 7 (by decide)))))).trans m7), (((p2 8 (by decide)).trans ((pk_un (by decide)).trans ((pk_un (by decide)).trans ((pk_un (by decide)).trans (q2 8 (by decide)))))).trans m8), (((p2 9 (by decide)).trans ((pk_un (by decide)).trans ((pk_un (by decide)).trans ((pk_un (by decide)).trans (q2 9 (by decide)))))).trans m9), (((p2 10 (by decide)).trans ((pk_un (by decide)).trans ((pk_un (by decide)).trans ((pk_un (by decide)).trans (q2 10 (by decide)))))).trans m10), mc⟩ (am_fpT f2 (am_fpU (show ¬ (39 < 39 ∨ 43 ≤ 39) by omega) (am_fpU (show ¬ (39 < 39 ∨ 43 ≤ 39) by omega) (am_fpU (show ¬ (39 < 39 ∨ 43 ≤ 39) by omega) f1))))
          · have hc9N := (nI_eq (a := (so (tp (sk L tp ρ.1.2.2)))) (b := 2) (by omega) (by omega)).mp hc9
            refine aw_aload_n (npc := 217) rfl dX1_advance_216 rfl ?_
            refine aw_get (npc := 220) dX1_advance_217 rfl kf_X1_18 Rd2.1 rfl ?_
            refine aw_top (y := nI (rn L tp (so (tp (sk L tp ρ.1.2.2))) (sk L tp ρ.1.2.2 + 1))) (p1) ?_
            refine aw_aload_n (npc := 221) rfl dX1_advance_220 rfl ?_
            refine aw_get (npc := 224) dX1_advance_221 rfl kf_X1_25 Rd2.1 rfl ?_
            refine aw_top (y := nI (sk L tp ρ.1.2.2)) (p23) ?_
            refine aw_isubV (npc := 225) (v := nI ((rn L tp (so (tp (sk L tp ρ.1.2.2))) (sk L tp ρ.1.2.2 + 1)) - (sk L tp ρ.1.2.2))) dX1_advance_224 rfl (pk_sub (by omega)) ?_
            refine aw_iconst (npc := 226) (v := 4) (by decide) dX1_advance_225 rfl ?_
            refine aw_icmp_le (npc := 229) (tgt := 234) dX1_advance_226 rfl (by decide) (fun hc10 => ?_) (fun hc10 => ?_)
            · have hc10N := (nI_leI (a := ((rn L tp (so (tp (sk L tp ρ.1.2.2))) (sk L tp ρ.1.2.2 + 1)) - (sk L tp ρ.1.2.2))) (b := 4) (by omega) (by omega)).mp hc10
              refine aw_vret rfl dX1_advance_234 ?_
              have ea : adv L tp ρ.1 = (so (tp (sk L tp ρ.1.2.2)), sk L tp ρ.1.2.2, rn L tp (so (tp (sk L tp ρ.1.2.2))) (sk L tp ρ.1.2.2 + 1)) := by
                unfold adv nx
                rw [hwd, if_neg (show ¬ L ≤ sk L tp ρ.1.2.2 by omega), if_neg hc7N]
                exact if_neg (fun z => z.elim (fun z => hc8N z.2) (fun y => by have z9 := hc10N; have y9 := y.2; omega))
              exact hq _ ⟨_, _, Rd2, ((p1).trans (show nI (rn L tp (so (tp (sk L tp ρ.1.2.2))) (sk L tp ρ.1.2.2 + 1)) = nI (adv L tp ρ.1).2.2 by rw [ea])), ((p22).trans (show nI (so (tp (sk L tp ρ.1.2.2))) = nI (adv L tp ρ.1).1 by rw [ea])), ((p23).trans (show nI (sk L tp ρ.1.2.2) = nI (adv L tp ρ.1).2.1 by rw [ea])), (((p2 4 (by decide)).trans ((pk_un (by decide)).trans ((pk_un (by decide)).trans ((pk_un (by decide)).trans (q2 4 (by decide)))))).trans m4), (((p2 5 (by decide)).trans ((pk_un (by decide)).trans ((pk_un (by decide)).trans ((pk_un (by decide)).trans (q2 5 (by decide)))))).trans m5), (((p2 7 (by decide)).trans ((pk_un (by decide)).trans ((pk_un (by decide)).trans ((pk_un (by decide)).trans (q2 7 (by decide)))))).trans m7), (((p2 8 (by decide)).trans ((pk_un (by decide)).trans ((pk_un (by decide)).trans ((pk_un (by decide)).trans (q2 8 (by decide)))))).trans m8), (((p2 9 (by decide)).trans ((pk_un (by decide)).trans ((pk_un (by decide)).trans ((pk_un (by decide)).trans (q2 9 (by decide)))))).trans m9), (((p2 10 (by decide)).trans ((pk_un (by decide)).trans ((pk_un (by decide)).trans ((pk_un (by decide)).trans (q2 10 (by decide)))))).trans m10), mc⟩ (am_fpT f2 (am_fpU (show ¬ (39 < 39 ∨ 43 ≤ 39) by omega) (am_fpU (show ¬ (39 < 39 ∨ 43 ≤ 39) by omega) (am_fpU (show ¬ (39 < 39 ∨ 43 ≤ 39) by omega) f1))))
            · have hc10N : ¬ ((rn L tp (so (tp (sk L tp ρ.1.2.2))) (sk L tp ρ.1.2.2 + 1)) - (sk L tp ρ.1.2.2)) ≤ 4 := fun z9q => hc10 ((nI_leI (a := ((rn L tp (so (tp (sk L tp ρ.1.2.2))) (sk L tp ρ.1.2.2 + 1)) - (sk L tp ρ.1.2.2))) (b := 4) (by omega) (by omega)).mpr z9q)
              refine aw_aload_n (npc := 230) rfl dX1_advance_229 rfl ?_
              refine aw_iconst (npc := 231) (v := 5) (by decide) dX1_advance_230 rfl ?_
              refine aw_put (npc := 234) dX1_advance_231 rfl kf_X1_22 Rd2.1 (Nat.le_of_ble_eq_true rfl) (am_ok_int _) rfl ?_
              have Rd11 := rd_r2 (v := 5) Rd2
              refine aw_vret rfl dX1_advance_234 ?_
              have ea : adv L tp ρ.1 = (5, sk L tp ρ.1.2.2, rn L tp (so (tp (sk L tp ρ.1.2.2))) (sk L tp ρ.1.2.2 + 1)) := by
                unfold adv nx
                rw [hwd, if_neg (show ¬ L ≤ sk L tp ρ.1.2.2 by omega), if_neg hc7N]
                exact if_pos (Or.inr ⟨hc9N, by have z9 := hc10N; omega⟩)
              exact hq _ ⟨_, _, Rd11, ((((pk_un (by omega))).trans p1).trans (show nI (rn L tp (so (tp (sk L tp ρ.1.2.2))) (sk L tp ρ.1.2.2 + 1)) = nI (adv L tp ρ.1).2.2 by rw [ea])), ((pk_us).trans (show nI (5) = nI (adv L tp ρ.1).1 by rw [ea])), ((((pk_un (by omega))).trans p23).trans (show nI (sk L tp ρ.1.2.2) = nI (adv L tp ρ.1).2.1 by rw [ea])), (((pk_un (by decide)).trans ((p2 4 (by decide)).trans ((pk_un (by decide)).trans ((pk_un (by decide)).trans ((pk_un (by decide)).trans (q2 4 (by decide))))))).trans m4), (((pk_un (by decide)).trans ((p2 5 (by decide)).trans ((pk_un (by decide)).trans ((pk_un (by decide)).trans ((pk_un (by decide)).trans (q2 5 (by decide))))))).trans m5), (((pk_un (by decide)).trans ((p2 7 (by decide)).trans ((pk_un (by decide)).trans ((pk_un (by decide)).trans ((pk_un (by decide)).trans (q2 7 (by decide))))))).trans m7), (((pk_un (by decide)).trans ((p2 8 (by decide)).trans ((pk_un (by decide)).trans ((pk_un (by decide)).trans ((pk_un (by decide)).trans (q2 8 (by decide))))))).trans m8), (((pk_un (by decide)).trans ((p2 9 (by decide)).trans ((pk_un (by decide)).trans ((pk_un (by decide)).trans ((pk_un (by decide)).trans (q2 9 (by decide))))))).trans m9), (((pk_un (by decide)).trans ((p2 10 (by decide)).trans ((pk_un (by decide)).trans ((pk_un (by decide)).trans ((pk_un (by decide)).trans (q2 10 (by decide))))))).trans m10), mc⟩ (am_fpU (show ¬ (39 < 39 ∨ 43 ≤ 39) by omega) (am_fpT f2 (am_fpU (show ¬ (39 < 39 ∨ 43 ≤ 39) by omega) (am_fpU (show ¬ (39 < 39 ∨ 43 ≤ 39) by omega) (am_fpU (show ¬ (39 < 39 ∨ 43 ≤ 39) by omega) f1)))))
        · have hc8N := (nI_eq (a := (sk L tp ρ.1.2.2)) (b := ρ.1.2.2) (by omega) (by omega)).mp hc8
          refine aw_iconst (npc := 199) (v := 1) (by decide) dX1_advance_198 rfl ?_
          refine aw_goto (npc := 203) dX1_advance_199 (by decide) ?_
          refine aw_istore_n (npc := 204) (L' := [some (.ref 39), some (.int (nI ρ.1.2.2)), some (.int 1), some (.int 1)]) dX1_advance_203 rfl (by decide) rfl rfl ?_
          refine aw_iload_n (npc := 205) rfl dX1_advance_204 rfl ?_
          refine aw_if_ne (npc := 208) (tgt := 229) dX1_advance_205 rfl (by decide) (fun _ => ?_) (fun hc => absurd hc (by decide))
          refine aw_aload_n (npc := 230) rfl dX1_advance_229 rfl ?_
          refine aw_iconst (npc := 231) (v := 5) (by decide) dX1_advance_230 rfl ?_
          refine aw_put (npc := 234) dX1_advance_231 rfl kf_X1_22 Rd2.1 (Nat.le_of_ble_eq_true rfl) (am_ok_int _) rfl ?_
          have Rd12 := rd_r2 (v := 5) Rd2
          refine aw_vret rfl dX1_advance_234 ?_
          have ea : adv L tp ρ.1 = (5, sk L tp ρ.1.2.2, rn L tp (so (tp (sk L tp ρ.1.2.2))) (sk L tp ρ.1.2.2 + 1)) := by
            unfold adv nx
            rw [hwd, if_neg (show ¬ L ≤ sk L tp ρ.1.2.2 by omega), if_neg hc7N]
            exact if_pos (Or.inl ⟨rfl, hc8N⟩)
          exact hq _ ⟨_, _, Rd12, ((((pk_un (by omega))).trans p1).trans (show nI (rn L tp (so (tp (sk L tp ρ.1.2.2))) (sk L tp ρ.1.2.2 + 1)) = nI (adv L tp ρ.1).2.2 by rw [ea])), ((pk_us).trans (show nI (5) = nI (adv L tp ρ.1).1 by rw [ea])), ((((pk_un (by omega))).trans p23).trans (show nI (sk L tp ρ.1.2.2) = nI (adv L tp ρ.1).2.1 by rw [ea])), (((pk_un (by decide)).trans ((p2 4 (by decide)).trans ((pk_un (by decide)).trans ((pk_un (by decide)).trans ((pk_un (by decide)).trans (q2 4 (by decide))))))).trans m4), (((pk_un (by decide)).trans ((p2 5 (by decide)).trans ((pk_un (by decide)).trans ((pk_un (by decide)).trans ((pk_un (by decide)).trans (q2 5 (by decide))))))).trans m5), (((pk_un (by decide)).trans ((p2 7 (by decide)).trans ((pk_un (by decide)).trans ((pk_un (by decide)).trans ((pk_un (by decide)).trans (q2 7 (by decide))))))).trans m7), (((pk_un (by decide)).trans ((p2 8 (by decide)).trans ((pk_un (by decide)).trans ((pk_un (by decide)).trans ((pk_un (by decide)).trans (q2 8 (by decide))))))).trans m8), (((pk_un (by decide)).trans ((p2 9 (by decide)).trans ((pk_un (by decide)).trans ((pk_un (by decide)).trans ((pk_un (by decide)).trans (q2 9 (by decide))))))).trans m9), (((pk_un (by decide)).trans ((p2 10 (by decide)).trans ((pk_un (by decide)).trans ((pk_un (by decide)).trans ((pk_un (by decide)).trans (q2 10 (by decide))))))).trans m10), mc⟩ (am_fpU (show ¬ (39 < 39 ∨ 43 ≤ 39) by omega) (am_fpT f2 (am_fpU (show ¬ (39 < 39 ∨ 43 ≤ 39) by omega) (am_fpU (show ¬ (39 < 39 ∨ 43 ≤ 39) by omega) (am_fpU (show ¬ (39 < 39 ∨ 43 ≤ 39) by omega) f1)))))
      · have hc7N := (nI_eq (a := (so (tp (sk L tp ρ.1.2.2)))) (b := 3) (by omega) (by omega)).mp hc7
        refine aw_vret rfl dX1_advance_136 ?_
        have ea : adv L tp ρ.1 = (3, sk L tp ρ.1.2.2, sk L tp ρ.1.2.2 + 1) := (if_neg (by omega)).trans (if_pos hc7N)
        exact hq _ ⟨_, _, Rd6, ((pk_us).trans (show nI (sk L tp ρ.1.2.2 + 1) = nI (adv L tp ρ.1).2.2 by rw [ea])), ((((pk_un (by omega))).trans pk_us).trans (show nI (so (tp (sk L tp ρ.1.2.2))) = nI (adv L tp ρ.1).1 by rw [ea]; exact congrArg nI hc7N)), (((((pk_un (by omega))).trans (pk_un (by omega))).trans pk_us).trans (show nI (sk L tp ρ.1.2.2) = nI (adv L tp ρ.1).2.1 by rw [ea])), (((pk_un (by decide)).trans ((pk_un (by decide)).trans ((pk_un (by decide)).trans (q2 4 (by decide))))).trans m4), (((pk_un (by decide)).trans ((pk_un (by decide)).trans ((pk_un (by decide)).trans (q2 5 (by decide))))).trans m5), (((pk_un (by decide)).trans ((pk_un (by decide)).trans ((pk_un (by decide)).trans (q2 7 (by decide))))).trans m7), (((pk_un (by decide)).trans ((pk_un (by decide)).trans ((pk_un (by decide)).trans (q2 8 (by decide))))).trans m8), (((pk_un (by decide)).trans ((pk_un (by decide)).trans ((pk_un (by decide)).trans (q2 9 (by decide))))).trans m9), (((pk_un (by decide)).trans ((pk_un (by decide)).trans ((pk_un (by decide)).trans (q2 10 (by decide))))).trans m10), mc⟩ (am_fpU (show ¬ (39 < 39 ∨ 43 ≤ 39) by omega) (am_fpU (show ¬ (39 < 39 ∨ 43 ≤ 39) by omega) (am_fpU (show ¬ (39 < 39 ∨ 43 ≤ 39) by omega) f1)))
    · have hc3N : ¬ (sk L tp ρ.1.2.2) < L := fun z9q => hc3 ((nI_ltI (a := (sk L tp ρ.1.2.2)) (b := L) (by omega) (by omega)).mpr z9q)
      refine aw_aload_n (npc := 94) rfl dX1_advance_93 rfl ?_
      refine aw_iconst (npc := 95) (v := 0) (by decide) dX1_advance_94 rfl ?_
      refine aw_put (npc := 98) dX1_advance_95 rfl kf_X1_22 Rd2.1 (Nat.le_of_ble_eq_true rfl) (am_ok_int _) rfl ?_
      have Rd13 := rd_r2 (v := 0) Rd2
      refine aw_vret rfl dX1_advance_98 ?_
      have ea : adv L tp ρ.1 = (0, sk L tp ρ.1.2.2, sk L tp ρ.1.2.2) := if_pos (by omega)
      exact hq _ ⟨_, _, Rd13, (((((pk_un (by omega))).trans (pk_un (by omega))).trans q1).trans (show nI (sk L tp ρ.1.2.2) = nI (adv L tp ρ.1).2.2 by rw [ea])), ((pk_us).trans (show nI (0) = nI (adv L tp ρ.1).1 by rw [ea])), ((((pk_un (by omega))).trans pk_us).trans (show nI (sk L tp ρ.1.2.2) = nI (adv L tp ρ.1).2.1 by rw [ea])), (((pk_un (by decide)).trans ((pk_un (by decide)).trans (q2 4 (by decide)))).trans m4), (((pk_un (by decide)).trans ((pk_un (by decide)).trans (q2 5 (by decide)))).trans m5), (((pk_un (by decide)).trans ((pk_un (by decide)).trans (q2 7 (by decide)))).trans m7), (((pk_un (by decide)).trans ((pk_un (by decide)).trans (q2 8 (by decide)))).trans m8), (((pk_un (by decide)).trans ((pk_un (by decide)).trans (q2 9 (by decide)))).trans m9), (((pk_un (by decide)).trans ((pk_un (by decide)).trans (q2 10 (by decide)))).trans m10), mc⟩ (am_fpU (show ¬ (39 < 39 ∨ 43 ≤ 39) by omega) (am_fpU (show ¬ (39 < 39 ∨ 43 ≤ 39) by omega) f1))
  · have hc1N : ¬ ρ.1.1 = 1 := fun z9q => hc1 ((nI_eq (a := ρ.1.1) (b := 1) (by omega) (by omega)).mpr z9q)
    refine aw_aload_n (npc := 14) rfl dX1_advance_13 rfl ?_
    refine aw_get (npc := 17) dX1_advance_14 rfl kf_X1_22 Rd.1 rfl ?_
    refine aw_top (y := nI ρ.1.1) (m2) ?_
    refine aw_iconst (npc := 18) (v := 2) (by decide) dX1_advance_17 rfl ?_
    refine aw_icmp_ne (npc := 21) (tgt := 25) dX1_advance_18 rfl (by decide) (fun hc14 => ?_) (fun hc14 => ?_)
    · have hc14N : ¬ ρ.1.1 = 2 := fun z9q => hc14 ((nI_eq (a := ρ.1.1) (b := 2) (by omega) (by omega)).mpr z9q)
      refine aw_iconst (npc := 26) (v := 0) (by decide) dX1_advance_25 rfl ?_
      refine aw_istore_n (npc := 27) (L' := [some (.ref 39), some (.int (nI ρ.1.2.2)), some (.int 0), none]) dX1_advance_26 rfl (by decide) rfl rfl ?_
      have hwd : wd ρ.1 = false := decide_eq_false (fun z => z.elim hc1N hc14N)
      refine r_bl w96 (L - ρ.1.2.2) ρ.1.2.2 (by omega) _ _ Rd m1 (fun r1 h1 q1 q2 Rd1 f1 => ?_)
      have hsk := skB_p (tp := tp) (L - ρ.1.2.2) ρ.1.2.2
      have hsk1 : ρ.1.2.2 ≤ sk L tp ρ.1.2.2 := hsk.1
      have hsk2 : sk L tp ρ.1.2.2 ≤ L := by have z := hsk.2.1; show skB tp (L - ρ.1.2.2) ρ.1.2.2 ≤ L; omega
      refine aw_aload_n (npc := 72) rfl dX1_advance_71 rfl ?_
      refine aw_aload_n (npc := 73) rfl dX1_advance_72 rfl ?_
      refine aw_get (npc := 76) dX1_advance_73 rfl kf_X1_18 Rd1.1 rfl ?_
      refine aw_top (y := nI (sk L tp ρ.1.2.2)) (q1) ?_
      refine aw_put (npc := 79) dX1_advance_76 rfl kf_X1_25 Rd1.1 (Nat.le_of_ble_eq_true rfl) (am_ok_int _) rfl ?_
      have Rd15 := rd_r3 (v := nI (sk L tp ρ.1.2.2)) Rd1
      refine aw_aload_n (npc := 80) rfl dX1_advance_79 rfl ?_
      refine aw_get (npc := 83) dX1_advance_80 rfl kf_X1_18 Rd15.1 rfl ?_
      refine aw_top (y := r1 1) ((pk_un (by omega))) ?_
      refine aw_top (y := nI (sk L tp ρ.1.2.2)) (q1) ?_
      refine aw_aload_n (npc := 84) rfl dX1_advance_83 rfl ?_
      refine aw_get (npc := 87) dX1_advance_84 rfl kf_X1_12 Rd15.1 rfl ?_
      refine aw_get (npc := 90) dX1_advance_87 rfl kf_X1_73 Rd15.2.1 rfl ?_
      refine aw_icmp_lt (npc := 93) (tgt := 99) dX1_advance_90 rfl (by decide) (fun hc16 => ?_) (fun hc16 => ?_)
      · have hc16N := (nI_ltI (a := (sk L tp ρ.1.2.2)) (b := L) (by omega) (by omega)).mp hc16
        refine aw_aload_n (npc := 100) rfl dX1_advance_99 rfl ?_
        refine aw_aload_n (npc := 101) rfl dX1_advance_100 rfl ?_
        refine aw_get (npc := 104) dX1_advance_101 rfl kf_X1_12 Rd15.1 rfl ?_
        refine aw_get (npc := 107) dX1_advance_104 rfl kf_X1_76 Rd15.2.1 rfl ?_
        refine aw_aload_n (npc := 108) rfl dX1_advance_107 rfl ?_
        refine aw_get (npc := 111) dX1_advance_108 rfl kf_X1_18 Rd15.1 rfl ?_
        refine aw_top (y := r1 1) ((pk_un (by omega))) ?_
        refine aw_top (y := nI (sk L tp ρ.1.2.2)) (q1) ?_
        refine aw_iald (npc := 112) (x := tp (sk L tp ρ.1.2.2)) (j := (sk L tp ρ.1.2.2)) dX1_advance_111 rfl Rd15.2.2.1 (am_ix_nI (by omega)) (tl_at (by omega)) ?_
        refine aw_callS (npc := 115) (N := mX1_sortOf) (mc := 0) (ms := 0) (A := [.int (tp (sk L tp ρ.1.2.2))]) (S := [.ref 39]) (L0 := [some (.int (tp (sk L tp ρ.1.2.2)))]) dX1_advance_112 rfl km_X1_sortOf kk_X1_79 rfl ⟨rfl, by decide⟩ rfl (Nat.le_of_ble_eq_true rfl) (Nat.zero_add _) (Nat.zero_add _) rfl ?_
        refine r_sort ?_
        have hso17 := so_le (tp (sk L tp ρ.1.2.2))
        refine aw_re (S' := [.int (nI (so (tp (sk L tp ρ.1.2.2)))), .ref 39]) rfl ?_
        refine aw_put (npc := 118) dX1_advance_115 rfl kf_X1_22 Rd15.1 (Nat.le_of_ble_eq_true rfl) (am_ok_int _) rfl ?_
        have Rd18 := rd_r2 (v := nI (so (tp (sk L tp ρ.1.2.2)))) Rd15
        refine aw_aload_n (npc := 119) rfl dX1_advance_118 rfl ?_
        refine aw_dup (npc := 120) rfl dX1_advance_119 rfl ?_
        refine aw_get (npc := 123) dX1_advance_120 rfl kf_X1_18 Rd18.1 rfl ?_
        refine aw_top (y := r1 1) (((pk_un (by omega))).trans (pk_un (by omega))) ?_
        refine aw_top (y := nI (sk L tp ρ.1.2.2)) (q1) ?_
        refine aw_iconst (npc := 124) (v := 1) (by decide) dX1_advance_123 rfl ?_
        refine aw_iaddV (npc := 125) (v := nI ((sk L tp ρ.1.2.2) + 1)) dX1_advance_124 rfl (nI_add _ 1) ?_
        refine aw_put (npc := 128) dX1_advance_125 rfl kf_X1_18 Rd18.1 (Nat.le_of_ble_eq_true rfl) (am_ok_int _) rfl ?_
        have Rd19 := rd_r1 (v := nI ((sk L tp ρ.1.2.2) + 1)) Rd18
        refine aw_aload_n (npc := 129) rfl dX1_advance_128 rfl ?_
        refine aw_get (npc := 132) dX1_advance_129 rfl kf_X1_22 Rd19.1 rfl ?_
        refine aw_top (y := nI (so (tp (sk L tp ρ.1.2.2)))) (((pk_un (by omega))).trans pk_us) ?_
        refine aw_iconst (npc := 133) (v := 3) (by decide) dX1_advance_132 rfl ?_
        refine aw_icmp_ne (npc := 136) (tgt := 137) dX1_advance_133 rfl (by decide) (fun hc20 => ?_) (fun hc20 => ?_)
        · have hc20N : ¬ (so (tp (sk L tp ρ.1.2.2))) = 3 := fun z9q => hc20 ((nI_eq (a := (so (tp (sk L tp ρ.1.2.2)))) (b := 3) (by omega) (by omega)).mpr z9q)
          have hso2 : so (tp (sk L tp ρ.1.2.2)) ≤ 4 := so_le _
          refine r_wl (t := so (tp (sk L tp ρ.1.2.2))) w96 (by omega) (L - (sk L tp ρ.1.2.2 + 1)) (sk L tp ρ.1.2.2 + 1) (by omega) _ _ Rd19 pk_us (((pk_un (by decide)).trans pk_us)) (fun r2 h2 p1 p2 Rd2 f2 => ?_)
          have hrn := rnB_p (tp := tp) (t := so (tp (sk L tp ρ.1.2.2))) (L - (sk L tp ρ.1.2.2 + 1)) (sk L tp ρ.1.2.2 + 1)
          have hrn1 : sk L tp ρ.1.2.2 + 1 ≤ rn L tp (so (tp (sk L tp ρ.1.2.2))) (sk L tp ρ.1.2.2 + 1) := hrn.1
          have hrn2 : rn L tp (so (tp (sk L tp ρ.1.2.2))) (sk L tp ρ.1.2.2 + 1) ≤ L := by have z := hrn.2.1; show rnB tp _ (L - (sk L tp ρ.1.2.2 + 1)) (sk L tp ρ.1.2.2 + 1) ≤ L; omega
          have p22 : r2 2 = nI (so (tp (sk L tp ρ.1.2.2))) := (p2 2 (by decide)).trans ((pk_un (by decide)).trans pk_us)
          have p23 : r2 3 = nI (sk L tp ρ.1.2.2) := (p2 3 (by decide)).trans ((pk_un (by decide)).trans ((pk_un (by decide)).trans pk_us))
          refine aw_iload_n (npc := 187) rfl dX1_advance_186 rfl ?_
          refine aw_if_eq (npc := 190) (tgt := 202) dX1_advance_187 rfl (by decide) (fun _ => ?_) (fun hc => absurd (by decide) hc)
          refine aw_iconst (npc := 203) (v := 0) (by decide) dX1_advance_202 rfl ?_
          refine aw_istore_n (npc := 204) (L' := [some (.ref 39), some (.int (nI ρ.1.2.2)), some (.int 0), some (.int 0)]) dX1_advance_203 rfl (by decide) rfl rfl ?_
          refine aw_iload_n (npc := 205) rfl dX1_advance_204 rfl ?_
          refine aw_if_ne (npc := 208) (tgt := 229) dX1_advance_205 rfl (by decide) (fun hc => absurd (by decide) hc) (fun _ => ?_)
          refine aw_aload_n (npc := 209) rfl dX1_advance_208 rfl ?_
          refine aw_get (npc := 212) dX1_advance_209 rfl kf_X1_22 Rd2.1 rfl ?_
          refine aw_top (y := nI (so (tp (sk L tp ρ.1.2.2)))) (p22) ?_
          refine aw_iconst (npc := 213) (v := 2) (by decide) dX1_advance_212 rfl ?_
          refine aw_icmp_ne (npc := 216) (tgt := 234) dX1_advance_213 rfl (by decide) (fun hc21 => ?_) (fun hc21 => ?_)
          · have hc21N : ¬ (so (tp (sk L tp ρ.1.2.2))) = 2 := fun z9q => hc21 ((nI_eq (a := (so (tp (sk L tp ρ.1.2.2)))) (b := 2) (by omega) (by omega)).mpr z9q)
            refine aw_vret rfl dX1_advance_234 ?_
            have ea : adv L tp ρ.1 = (so (tp (sk L tp ρ.1.2.2)), sk L tp ρ.1.2.2, rn L tp (so (tp (sk L tp ρ.1.2.2))) (sk L tp ρ.1.2.2 + 1)) := by
              unfold adv nx
              rw [hwd, if_neg (show ¬ L ≤ sk L tp ρ.1.2.2 by omega), if_neg hc20N]
              exact if_neg (fun z => z.elim (fun z => absurd z.1 (by decide)) (fun y => hc21N y.1))
            exact hq _ ⟨_, _, Rd2, ((p1).trans (show nI (rn L tp (so (tp (sk L tp ρ.1.2.2))) (sk L tp ρ.1.2.2 + 1)) = nI (adv L tp ρ.1).2.2 by rw [ea])), ((p22).trans (show nI (so (tp (sk L tp ρ.1.2.2))) = nI (adv L tp ρ.1).1 by rw [ea])), ((p23).trans (show nI (sk L tp ρ.1.2.2) = nI (adv L tp ρ.1).2.1 by rw [ea])), (((p2 4 (by decide)).trans ((pk_un (by decide)).trans ((pk_un (by decide)).trans ((pk_un (by decide)).trans (q2 4 (by decide)))))).trans m4), (((p2 5 (by decide)).trans ((pk_un (by decide)).trans ((pk_un (by decide)).trans ((pk_un (by decide)).trans (q2 5 (by decide)))))).trans m5), (((p2 7 (by decide)).trans ((pk_un (by decide)).trans ((pk_un (by decide)).trans ((pk_un (by decide)).trans (q2 7 (by decide)))))).trans m7), (((p2 8 (by decide)).trans ((pk_un (by decide)).trans ((pk_un (by decide)).trans ((pk_un (by decide)).trans (q2 8 (by decide)))))).trans m8), (((p2 9 (by decide)).trans ((pk_un (by decide)).trans ((pk_un (by decide)).trans ((pk_un (by decide)).trans (q2 9 (by decide)))))).trans m9), (((p2 10 (by decide)).trans ((pk_un (by decide)).trans ((pk_un (by decide)).trans ((pk_un (by decide)).trans (q2 10 (by decide)))))).trans m10), mc⟩ (am_fpT f2 (am_fpU (show ¬ (39 < 39 ∨ 43 ≤ 39) by omega) (am_fpU (show ¬ (39 < 39 ∨ 43 ≤ 39) by omega) (am_fpU (show ¬ (39 < 39 ∨ 43 ≤ 39) by omega) f1))))
          · have hc21N := (nI_eq (a := (so (tp (sk L tp ρ.1.2.2)))) (b := 2) (by omega) (by omega)).mp hc21
            refine aw_aload_n (npc := 217) rfl dX1_advance_216 rfl ?_
            refine aw_get (npc := 220) dX1_advance_217 rfl kf_X1_18 Rd2.1 rfl ?_
            refine aw_top (y := nI (rn L tp (so (tp (sk L tp ρ.1.2.2))) (sk L tp ρ.1.2.2 + 1))) (p1) ?_
            refine aw_aload_n (npc := 221) rfl dX1_advance_220 rfl ?_
            refine aw_get (npc := 224) dX1_advance_221 rfl kf_X1_25 Rd2.1 rfl ?_
            refine aw_top (y := nI (sk L tp ρ.1.2.2)) (p23) ?_
            refine aw_isubV (npc := 225) (v := nI ((rn L tp (so (tp (sk L tp ρ.1.2.2))) (sk L tp ρ.1.2.2 + 1)) - (sk L tp ρ.1.2.2))) dX1_advance_224 rfl (pk_sub (by omega)) ?_
            refine aw_iconst (npc := 226) (v := 4) (by decide) dX1_advance_225 rfl ?_
            refine aw_icmp_le (npc := 229) (tgt := 234) dX1_advance_226 rfl (by decide) (fun hc22 => ?_) (fun hc22 => ?_)
            · have hc22N := (nI_leI (a := ((rn L tp (so (tp (sk L tp ρ.1.2.2))) (sk L tp ρ.1.2.2 + 1)) - (sk L tp ρ.1.2.2))) (b := 4) (by omega) (by omega)).mp hc22
              refine aw_vret rfl dX1_advance_234 ?_
              have ea : adv L tp ρ.1 = (so (tp (sk L tp ρ.1.2.2)), sk L tp ρ.1.2.2, rn L tp (so (tp (sk L tp ρ.1.2.2))) (sk L tp ρ.1.2.2 + 1)) := by
                unfold adv nx
                rw [hwd, if_neg (show ¬ L ≤ sk L tp ρ.1.2.2 by omega), if_neg hc20N]
                exact if_neg (fun z => z.elim (fun z => absurd z.1 (by decide)) (fun y => by have z9 := hc22N; have y9 := y.2; omega))
              exact hq _ ⟨_, _, Rd2, ((p1).trans (show nI (rn L tp (so (tp (sk L tp ρ.1.2.2))) (sk L tp ρ.1.2.2 + 1)) = nI (adv L tp ρ.1).2.2 by rw [ea])), ((p22).trans (show nI (so (tp (sk L tp ρ.1.2.2))) = nI (adv L tp ρ.1).1 by rw [ea])), ((p23).trans (show nI (sk L tp ρ.1.2.2) = nI (adv L tp ρ.1).2.1 by rw [ea])), (((p2 4 (by decide)).trans ((pk_un (by decide)).trans ((pk_un (by decide)).trans ((pk_un (by decide)).trans (q2 4 (by decide)))))).trans m4), (((p2 5 (by decide)).trans ((pk_un (by decide)).trans ((pk_un (by decide)).trans ((pk_un (by decide)).trans (q2 5 (by decide)))))).trans m5), (((p2 7 (by decide)).trans ((pk_un (by decide)).trans ((pk_un (by decide)).trans ((pk_un (by decide)).trans (q2 7 (by decide)))))).trans m7), (((p2 8 (by decide)).trans ((pk_un (by decide)).trans ((pk_un (by decide)).trans ((pk_un (by decide)).trans (q2 8 (by decide)))))).trans m8), (((p2 9 (by decide)).trans ((pk_un (by decide)).trans ((pk_un (by decide)).trans ((pk_un (by decide)).trans (q2 9 (by decide)))))).trans m9), (((p2 10 (by decide)).trans ((pk_un (by decide)).trans ((pk_un (by decide)).trans ((pk_un (by decide)).trans (q2 10 (by decide)))))).trans m10), mc⟩ (am_fpT f2 (am_fpU (show ¬ (39 < 39 ∨ 43 ≤ 39) by omega) (am_fpU (show ¬ (39 < 39 ∨ 43 ≤ 39) by omega) (am_fpU (show ¬ (39 < 39 ∨ 43 ≤ 39) by omega) f1))))
            · have hc22N : ¬ ((rn L tp (so (tp (sk L tp ρ.1.2.2))) (sk L tp ρ.1.2.2 + 1)) - (sk L tp ρ.1.2.2)) ≤ 4 := fun z9q => hc22 ((nI_leI (a := ((rn L tp (so (tp (sk L tp ρ.1.2.2))) (sk L tp ρ.1.2.2 + 1)) - (sk L tp ρ.1.2.2))) (b := 4) (by omega) (by omega)).mpr z9q)
              refine aw_aload_n (npc := 230) rfl dX1_advance_229 rfl ?_
              refine aw_iconst (npc := 231) (v := 5) (by decide) dX1_advance_230 rfl ?_
              refine aw_put (npc := 234) dX1_advance_231 rfl kf_X1_22 Rd2.1 (Nat.le_of_ble_eq_true rfl) (am_ok_int _) rfl ?_
              have Rd23 := rd_r2 (v := 5) Rd2
              refine aw_vret rfl dX1_advance_234 ?_
              have ea : adv L tp ρ.1 = (5, sk L tp ρ.1.2.2, rn L tp (so (tp (sk L tp ρ.1.2.2))) (sk L tp ρ.1.2.2 + 1)) := by
                unfold adv nx
                rw [hwd, if_neg (show ¬ L ≤ sk L tp ρ.1.2.2 by omega), if_neg hc20N]
                exact if_pos (Or.inr ⟨hc21N, by have z9 := hc22N; omega⟩)
              exact hq _ ⟨_, _, Rd23, ((((pk_un (by omega))).trans p1).trans (show nI (rn L tp (so (tp (sk L tp ρ.1.2.2))) (sk L tp ρ.1.2.2 + 1)) = nI (adv L tp ρ.1).2.2 by rw [ea])), ((pk_us).trans (show nI (5) = nI (adv L tp ρ.1).1 by rw [ea])), ((((pk_un (by omega))).trans p23).trans (show nI (sk L tp ρ.1.2.2) = nI (adv L tp ρ.1).2.1 by rw [ea])), (((pk_un (by decide)).trans ((p2 4 (by decide)).trans ((pk_un (by decide)).trans ((pk_un (by decide)).trans ((pk_un (by decide)).trans (q2 4 (by decide))))))).trans m4), (((pk_un (by decide)).trans ((p2 5 (by decide)).trans ((pk_un (by decide)).trans ((pk_un (by decide)).trans ((pk_un (by decide)).trans (q2 5 (by decide))))))).trans m5), (((pk_un (by decide)).trans ((p2 7 (by decide)).trans ((pk_un (by decide)).trans ((pk_un (by decide)).trans ((pk_un (by decide)).trans (q2 7 (by decide))))))).trans m7), (((pk_un (by decide)).trans ((p2 8 (by decide)).trans ((pk_un (by decide)).trans ((pk_un (by decide)).trans ((pk_un (by decide)).trans (q2 8 (by decide))))))).trans m8), (((pk_un (by decide)).trans ((p2 9 (by decide)).trans ((pk_un (by decide)).trans ((pk_un (by decide)).trans ((pk_un (by decide)).trans (q2 9 (by decide))))))).trans m9), (((pk_un (by decide)).trans ((p2 10 (by decide)).trans ((pk_un (by decide)).trans ((pk_un (by decide)).trans ((pk_un (by decide)).trans (q2 10 (by decide))))))).trans m10), mc⟩ (am_fpU (show ¬ (39 < 39 ∨ 43 ≤ 39) by omega) (am_fpT f2 (am_fpU (show ¬ (39 < 39 ∨ 43 ≤ 39) by omega) (am_fpU (show ¬ (39 < 39 ∨ 43 ≤ 39) by omega) (am_fpU (show ¬ (39 < 39 ∨ 43 ≤ 39) by omega) f1)))))
        · have hc20N := (nI_eq (a := (so (tp (sk L tp ρ.1.2.2)))) (b := 3) (by omega) (by omega)).mp hc20
          refine aw_vret rfl dX1_advance_136 ?_
          have ea : adv L tp ρ.1 = (3, sk L tp ρ.1.2.2, sk L tp ρ.1.2.2 + 1) := (if_neg (by omega)).trans (if_pos hc20N)
          exact hq _ ⟨_, _, Rd19, ((pk_us).trans (show nI (sk L tp ρ.1.2.2 + 1) = nI (adv L tp ρ.1).2.2 by rw [ea])), ((((pk_un (by omega))).trans pk_us).trans (show nI (so (tp (sk L tp ρ.1.2.2))) = nI (adv L tp ρ.1).1 by rw [ea]; exact congrArg nI hc20N)), (((((pk_un (by omega))).trans (pk_un (by omega))).trans pk_us).trans (show nI (sk L tp ρ.1.2.2) = nI (adv L tp ρ.1).2.1 by rw [ea])), (((pk_un (by decide)).trans ((pk_un (by decide)).trans ((pk_un (by decide)).trans (q2 4 (by decide))))).trans m4), (((pk_un (by decide)).trans ((pk_un (by decide)).trans ((pk_un (by decide)).trans (q2 5 (by decide))))).trans m5), (((pk_un (by decide)).trans ((pk_un (by decide)).trans ((pk_un (by decide)).trans (q2 7 (by decide))))).trans m7), (((pk_un (by decide)).trans ((pk_un (by decide)).trans ((pk_un (by decide)).trans (q2 8 (by decide))))).trans m8), (((pk_un (by decide)).trans ((pk_un (by decide)).trans ((pk_un (by decide)).trans (q2 9 (by decide))))).trans m9), (((pk_un (by decide)).trans ((pk_un (by decide)).trans ((pk_un (by decide)).trans (q2 10 (by decide))))).trans m10), mc⟩ (am_fpU (show ¬ (39 < 39 ∨ 43 ≤ 39) by omega) (am_fpU (show ¬ (39 < 39 ∨ 43 ≤ 39) by omega) (am_fpU (show ¬ (39 < 39 ∨ 43 ≤ 39) by omega) f1)))
      · have hc16N : ¬ (sk L tp ρ.1.2.2) < L := fun z9q => hc16 ((nI_ltI (a := (sk L tp ρ.1.2.2)) (b := L) (by omega) (by omega)).mpr z9q)
        refine aw_aload_n (npc := 94) rfl dX1_advance_93 rfl ?_
        refine aw_iconst (npc := 95) (v := 0) (by decide) dX1_advance_94 rfl ?_
        refine aw_put (npc := 98) dX1_advance_95 rfl kf_X1_22 Rd15.1 (Nat.le_of_ble_eq_true rfl) (am_ok_int _) rfl ?_
        have Rd24 := rd_r2 (v := 0) Rd15
        refine aw_vret rfl dX1_advance_98 ?_
        have ea : adv L tp ρ.1 = (0, sk L tp ρ.1.2.2, sk L tp ρ.1.2.2) := if_pos (by omega)
        exact hq _ ⟨_, _, Rd24, (((((pk_un (by omega))).trans (pk_un (by omega))).trans q1).trans (show nI (sk L tp ρ.1.2.2) = nI (adv L tp ρ.1).2.2 by rw [ea])), ((pk_us).trans (show nI (0) = nI (adv L tp ρ.1).1 by rw [ea])), ((((pk_un (by omega))).trans pk_us).trans (show nI (sk L tp ρ.1.2.2) = nI (adv L tp ρ.1).2.1 by rw [ea])), (((pk_un (by decide)).trans ((pk_un (by decide)).trans (q2 4 (by decide)))).trans m4), (((pk_un (by decide)).trans ((pk_un (by decide)).trans (q2 5 (by decide)))).trans m5), (((pk_un (by decide)).trans ((pk_un (by decide)).trans (q2 7 (by decide)))).trans m7), (((pk_un (by decide)).trans ((pk_un (by decide)).trans (q2 8 (by decide)))).trans m8), (((pk_un (by decide)).trans ((pk_un (by decide)).trans (q2 9 (by decide)))).trans m9), (((pk_un (by decide)).trans ((pk_un (by decide)).trans (q2 10 (by decide)))).trans m10), mc⟩ (am_fpU (show ¬ (39 < 39 ∨ 43 ≤ 39) by omega) (am_fpU (show ¬ (39 < 39 ∨ 43 ≤ 39) by omega) f1))
    · have hc14N := (nI_eq (a := ρ.1.1) (b := 2) (by omega) (by omega)).mp hc14
      refine aw_iconst (npc := 22) (v := 1) (by decide) dX1_advance_21 rfl ?_
      refine aw_goto (npc := 26) dX1_advance_22 (by decide) ?_
      refine aw_istore_n (npc := 27) (L' := [some (.ref 39), some (.int (nI ρ.1.2.2)), some (.int 1), none]) dX1_advance_26 rfl (by decide) rfl rfl ?_
      have hwd : wd ρ.1 = true := decide_eq_true (Or.inr hc14N)
      refine r_bl w96 (L - ρ.1.2.2) ρ.1.2.2 (by omega) _ _ Rd m1 (fun r1 h1 q1 q2 Rd1 f1 => ?_)
      have hsk := skB_p (tp := tp) (L - ρ.1.2.2) ρ.1.2.2
      have hsk1 : ρ.1.2.2 ≤ sk L tp ρ.1.2.2 := hsk.1
      have hsk2 : sk L tp ρ.1.2.2 ≤ L := by have z := hsk.2.1; show skB tp (L - ρ.1.2.2) ρ.1.2.2 ≤ L; omega
      refine aw_aload_n (npc := 72) rfl dX1_advance_71 rfl ?_
      refine aw_aload_n (npc := 73) rfl dX1_advance_72 rfl ?_
      refine aw_get (npc := 76) dX1_advance_73 rfl kf_X1_18 Rd1.1 rfl ?_
      refine aw_top (y := nI (sk L tp ρ.1.2.2)) (q1) ?_
      refine aw_put (npc := 79) dX1_advance_76 rfl kf_X1_25 Rd1.1 (Nat.le_of_ble_eq_true rfl) (am_ok_int _) rfl ?_
      have Rd25 := rd_r3 (v := nI (sk L tp ρ.1.2.2)) Rd1
      refine aw_aload_n (npc := 80) rfl dX1_advance_79 rfl ?_
      refine aw_get (npc := 83) dX1_advance_80 rfl kf_X1_18 Rd25.1 rfl ?_
      refine aw_top (y := r1 1) ((pk_un (by omega))) ?_
      refine aw_top (y := nI (sk L tp ρ.1.2.2)) (q1) ?_
      refine aw_aload_n (npc := 84) rfl dX1_advance_83 rfl ?_
      refine aw_get (npc := 87) dX1_advance_84 rfl kf_X1_12 Rd25.1 rfl ?_
      refine aw_get (npc := 90) dX1_advance_87 rfl kf_X1_73 Rd25.2.1 rfl ?_
      refine aw_icmp_lt (npc := 93) (tgt := 99) dX1_advance_90 rfl (by decide) (fun hc26 => ?_) (fun hc26 => ?_)
      · have hc26N := (nI_ltI (a := (sk L tp ρ.1.2.2)) (b := L) (by omega) (by omega)).mp hc26
        refine aw_aload_n (npc := 100) rfl dX1_advance_99 rfl ?_
        refine aw_aload_n (npc := 101) rfl dX1_advance_100 rfl ?_
        refine aw_get (npc := 104) dX1_advance_101 rfl kf_X1_12 Rd25.1 rfl ?_
        refine aw_get (npc := 107) dX1_advance_104 rfl kf_X1_76 Rd25.2.1 rfl ?_
        refine aw_aload_n (npc := 108) rfl dX1_advance_107 rfl ?_
        refine aw_get (npc := 111) dX1_advance_108 rfl kf_X1_18 Rd25.1 rfl ?_
        refine aw_top (y := r1 1) ((pk_un (by omega))) ?_
        refine aw_top (y := nI (sk L tp ρ.1.2.2)) (q1) ?_
        refine aw_iald (npc := 112) (x := tp (sk L tp ρ.1.2.2)) (j := (sk L tp ρ.1.2.2)) dX1_advance_111 rfl Rd25.2.2.1 (am_ix_nI (by omega)) (tl_at (by omega)) ?_
        refine aw_callS (npc := 115) (N := mX1_sortOf) (mc := 0) (ms := 0) (A := [.int (tp (sk L tp ρ.1.2.2))]) (S := [.ref 39]) (L0 := [some (.int (tp (sk L tp ρ.1.2.2)))]) dX1_advance_112 rfl km_X1_sortOf kk_X1_79 rfl ⟨rfl, by decide⟩ rfl (Nat.le_of_ble_eq_true rfl) (Nat.zero_add _) (Nat.zero_add _) rfl ?_
        refine r_sort ?_
        have hso27 := so_le (tp (sk L tp ρ.1.2.2))
        refine aw_re (S' := [.int (nI (so (tp (sk L tp ρ.1.2.2)))), .ref 39]) rfl ?_
        refine aw_put (npc := 118) dX1_advance_115 rfl kf_X1_22 Rd25.1 (Nat.le_of_ble_eq_true rfl) (am_ok_int _) rfl ?_
        have Rd28 := rd_r2 (v := nI (so (tp (sk L tp ρ.1.2.2)))) Rd25
        refine aw_aload_n (npc := 119) rfl dX1_advance_118 rfl ?_
        refine aw_dup (npc := 120) rfl dX1_advance_119 rfl ?_
        refine aw_get (npc := 123) dX1_advance_120 rfl kf_X1_18 Rd28.1 rfl ?_
        refine aw_top (y := r1 1) (((pk_un (by omega))).trans (pk_un (by omega))) ?_
        refine aw_top (y := nI (sk L tp ρ.1.2.2)) (q1) ?_
        refine aw_iconst (npc := 124) (v := 1) (by decide) dX1_advance_123 rfl ?_
        refine aw_iaddV (npc := 125) (v := nI ((sk L tp ρ.1.2.2) + 1)) dX1_advance_124 rfl (nI_add _ 1) ?_
        refine aw_put (npc := 128) dX1_advance_125 rfl kf_X1_18 Rd28.1 (Nat.le_of_ble_eq_true rfl) (am_ok_int _) rfl ?_
        have Rd29 := rd_r1 (v := nI ((sk L tp ρ.1.2.2) + 1)) Rd28
        refine aw_aload_n (npc := 129) rfl dX1_advance_128 rfl ?_
        refine aw_get (npc := 132) dX1_advance_129 rfl kf_X1_22 Rd29.1 rfl ?_
        refine aw_top (y := nI (so (tp (sk L tp ρ.1.2.2)))) (((pk_un (by omega))).trans pk_us) ?_
        refine aw_iconst (npc := 133) (v := 3) (by decide) dX1_advance_132 rfl ?_
        refine aw_icmp_ne (npc := 136) (tgt := 137) dX1_advance_133 rfl (by decide) (fun hc30 => ?_) (fun hc30 => ?_)
        · have hc30N : ¬ (so (tp (sk L tp ρ.1.2.2))) = 3 := fun z9q => hc30 ((nI_eq (a := (so (tp (sk L tp ρ.1.2.2)))) (b := 3) (by omega) (by omega)).mpr z9q)
          have hso2 : so (tp (sk L tp ρ.1.2.2)) ≤ 4 := so_le _
          refine r_wl (t := so (tp (sk L tp ρ.1.2.2))) w96 (by omega) (L - (sk L tp ρ.1.2.2 + 1)) (sk L tp ρ.1.2.2 + 1) (by omega) _ _ Rd29 pk_us (((pk_un (by decide)).trans pk_us)) (fun r2 h2 p1 p2 Rd2 f2 => ?_)
          have hrn := rnB_p (tp := tp) (t := so (tp (sk L tp ρ.1.2.2))) (L - (sk L tp ρ.1.2.2 + 1)) (sk L tp ρ.1.2.2 + 1)
          have hrn1 : sk L tp ρ.1.2.2 + 1 ≤ rn L tp (so (tp (sk L tp ρ.1.2.2))) (sk L tp ρ.1.2.2 + 1) := hrn.1
          have hrn2 : rn L tp (so (tp (sk L tp ρ.1.2.2))) (sk L tp ρ.1.2.2 + 1) ≤ L := by have z := hrn.2.1; show rnB tp _ (L - (sk L tp ρ.1.2.2 + 1)) (sk L tp ρ.1.2.2 + 1) ≤ L; omega
          have p22 : r2 2 = nI (so (tp (sk L tp ρ.1.2.2))) := (p2 2 (by decide)).trans ((pk_un (by decide)).trans pk_us)
          have p23 : r2 3 = nI (sk L tp ρ.1.2.2) := (p2 3 (by decide)).trans ((pk_un (by decide)).trans ((pk_un (by decide)).trans pk_us))
          refine aw_iload_n (npc := 187) rfl dX1_advance_186 rfl ?_
          refine aw_if_eq (npc := 190) (tgt := 202) dX1_advance_187 rfl (by decide) (fun hc => absurd hc (by decide)) (fun _ => ?_)
          refine aw_aload_n (npc := 191) rfl dX1_advance_190 rfl ?_
          refine aw_get (npc := 194) dX1_advance_191 rfl kf_X1_25 Rd2.1 rfl ?_
          refine aw_top (y := nI (sk L tp ρ.1.2.2)) (p23) ?_
          refine aw_iload_n (npc := 195) rfl dX1_advance_194 rfl ?_
          refine aw_icmp_ne (npc := 198) (tgt := 202) dX1_advance_195 rfl (by decide) (fun hc31 => ?_) (fun hc31 => ?_)
          · have hc31N : ¬ (sk L tp ρ.1.2.2) = ρ.1.2.2 := fun z9q => hc31 ((nI_eq (a := (sk L tp ρ.1.2.2)) (b := ρ.1.2.2) (by omega) (by omega)).mpr z9q)
            refine aw_iconst (npc := 203) (v := 0) (by decide) dX1_advance_202 rfl ?_
            refine aw_istore_n (npc := 204) (L' := [some (.ref 39), some (.int (nI ρ.1.2.2)), some (.int 1), some (.int 0)]) dX1_advance_203 rfl (by decide) rfl rfl ?_
            refine aw_iload_n (npc := 205) rfl dX1_advance_204 rfl ?_
            refine aw_if_ne (npc := 208) (tgt := 229) dX1_advance_205 rfl (by decide) (fun hc => absurd (by decide) hc) (fun _ => ?_)
            refine aw_aload_n (npc := 209) rfl dX1_advance_208 rfl ?_
            refine aw_get (npc := 212) dX1_advance_209 rfl kf_X1_22 Rd2.1 rfl ?_
            refine aw_top (y := nI (so (tp (sk L tp ρ.1.2.2)))) (p22) ?_
            refine aw_iconst (npc := 213) (v := 2) (by decide) dX1_advance_212 rfl ?_
            refine aw_icmp_ne (npc := 216) (tgt := 234) dX1_advance_213 rfl (by decide) (fun hc32 => ?_) (fun hc32 => ?_)
            · have hc32N : ¬ (so (tp (sk L tp ρ.1.2.2))) = 2 := fun z9q => hc32 ((nI_eq (a := (so (tp (sk L tp ρ.1.2.2)))) (b := 2) (by omega) (by omega)).mpr z9q)
              refine aw_vret rfl dX1_advance_234 ?_
              have ea : adv L tp ρ.1 = (so (tp (sk L tp ρ.1.2.2)), sk L tp ρ.1.2.2, rn L tp (so (tp (sk L tp ρ.1.2.2))) (sk L tp ρ.1.2.2 + 1)) := by
                unfold adv nx
                rw [hwd, if_neg (show ¬ L ≤ sk L tp ρ.1.2.2 by omega), if_neg hc30N]
                exact if_neg (fun z => z.elim (fun z => hc31N z.2) (fun y => hc32N y.1))
              exact hq _ ⟨_, _, Rd2, ((p1).trans (show nI (rn L tp (so (tp (sk L tp ρ.1.2.2))) (sk L tp ρ.1.2.2 + 1)) = nI (adv L tp ρ.1).2.2 by rw [ea])), ((p22).trans (show nI (so (tp (sk L tp ρ.1.2.2))) = nI (adv L tp ρ.1).1 by rw [ea])), ((p23).trans (show nI (sk L tp ρ.1.2.2) = nI (adv L tp ρ.1).2.1 by rw [ea])), (((p2 4 (by decide)).trans ((pk_un (by decide)).trans ((pk_un (by decide)).trans ((pk_un (by decide)).trans (q2 4 (by decide)))))).trans m4), (((p2 5 (by decide)).trans ((pk_un (by decide)).trans ((pk_un (by decide)).trans ((pk_un (by decide)).trans (q2 5 (by decide)))))).trans m5), (((p2 7 (by decide)).trans ((pk_un (by decide)).trans ((pk_un (by decide)).trans ((pk_un (by decide)).trans (q2 7 (by decide)))))).trans m7), (((p2 8 (by decide)).trans ((pk_un (by decide)).trans ((pk_un (by decide)).trans ((pk_un (by decide)).trans (q2 8 (by decide)))))).trans m8), (((p2 9 (by decide)).trans ((pk_un (by decide)).trans ((pk_un (by decide)).trans ((pk_un (by decide)).trans (q2 9 (by decide)))))).trans m9), (((p2 10 (by decide)).trans ((pk_un (by decide)).trans ((pk_un (by decide)).trans ((pk_un (by decide)).trans (q2 10 (by decide)))))).trans m10), mc⟩ (am_fpT f2 (am_fpU (show ¬ (39 < 39 ∨ 43 ≤ 39) by omega) (am_fpU (show ¬ (39 < 39 ∨ 43 ≤ 39) by omega) (am_fpU (show ¬ (39 < 39 ∨ 43 ≤ 39) by omega) f1))))
            · have hc32N := (nI_eq (a := (so (tp (sk L tp ρ.1.2.2)))) (b := 2) (by omega) (by omega)).mp hc32
              refine aw_aload_n (npc := 217) rfl dX1_advance_216 rfl ?_
              refine aw_get (npc := 220) dX1_advance_217 rfl kf_X1_18 Rd2.1 rfl ?_
              refine aw_top (y := nI (rn L tp (so (tp (sk L tp ρ.1.2.2))) (sk L tp ρ.1.2.2 + 1))) (p1) ?_
              refine aw_aload_n (npc := 221) rfl dX1_advance_220 rfl ?_
              refine aw_get (npc := 224) dX1_advance_221 rfl kf_X1_25 Rd2.1 rfl ?_
              refine aw_top (y := nI (sk L tp ρ.1.2.2)) (p23) ?_
              refine aw_isubV (npc := 225) (v := nI ((rn L tp (so (tp (sk L tp ρ.1.2.2))) (sk L tp ρ.1.2.2 + 1)) - (sk L tp ρ.1.2.2))) dX1_advance_224 rfl (pk_sub (by omega)) ?_
              refine aw_iconst (npc := 226) (v := 4) (by decide) dX1_advance_225 rfl ?_
              refine aw_icmp_le (npc := 229) (tgt := 234) dX1_advance_226 rfl (by decide) (fun hc33 => ?_) (fun hc33 => ?_)
              · have hc33N := (nI_leI (a := ((rn L tp (so (tp (sk L tp ρ.1.2.2))) (sk L tp ρ.1.2.2 + 1)) - (sk L tp ρ.1.2.2))) (b := 4) (by omega) (by omega)).mp hc33
                refine aw_vret rfl dX1_advance_234 ?_
                have ea : adv L tp ρ.1 = (so (tp (sk L tp ρ.1.2.2)), sk L tp ρ.1.2.2, rn L tp (so (tp (sk L tp ρ.1.2.2))) (sk L tp ρ.1.2.2 + 1)) := by
                  unfold adv nx
                  rw [hwd, if_neg (show ¬ L ≤ sk L tp ρ.1.2.2 by omega), if_neg hc30N]
                  exact if_neg (fun z => z.elim (fun z => hc31N z.2) (fun y => by have z9 := hc33N; have y9 := y.2; omega))
                exact hq _ ⟨_, _, Rd2, ((p1).trans (show nI (rn L tp (so (tp (sk L tp ρ.1.2.2))) (sk L tp ρ.1.2.2 + 1)) = nI (adv L tp ρ.1).2.2 by rw [ea])), ((p22).trans (show nI (so (tp (sk L tp ρ.1.2.2))) = nI (adv L tp ρ.1).1 by rw [ea])), ((p23).trans (show nI (sk L tp ρ.1.2.2) = nI (adv L tp ρ.1).2.1 by rw [ea])), (((p2 4 (by decide)).trans ((pk_un (by decide)).trans ((pk_un (by decide)).trans ((pk_un (by decide)).trans (q2 4 (by decide)))))).trans m4), (((p2 5 (by decide)).trans ((pk_un (by decide)).trans ((pk_un (by decide)).trans ((pk_un (by decide)).trans (q2 5 (by decide)))))).trans m5), (((p2 7 (by decide)).trans ((pk_un (by decide)).trans ((pk_un (by decide)).trans ((pk_un (by decide)).trans (q2 7 (by decide)))))).trans m7), (((p2 8 (by decide)).trans ((pk_un (by decide)).trans ((pk_un (by decide)).trans ((pk_un (by decide)).trans (q2 8 (by decide)))))).trans m8), (((p2 9 (by decide)).trans ((pk_un (by decide)).trans ((pk_un (by decide)).trans ((pk_un (by decide)).trans (q2 9 (by decide)))))).trans m9), (((p2 10 (by decide)).trans ((pk_un (by decide)).trans ((pk_un (by decide)).trans ((pk_un (by decide)).trans (q2 10 (by decide)))))).trans m10), mc⟩ (am_fpT f2 (am_fpU (show ¬ (39 < 39 ∨ 43 ≤ 39) by omega) (am_fpU (show ¬ (39 < 39 ∨ 43 ≤ 39) by omega) (am_fpU (show ¬ (39 < 39 ∨ 43 ≤ 39) by omega) f1))))
              · have hc33N : ¬ ((rn L tp (so (tp (sk L tp ρ.1.2.2))) (sk L tp ρ.1.2.2 + 1)) - (sk L tp ρ.1.2.2)) ≤ 4 := fun z9q => hc33 ((nI_leI (a := ((rn L tp (so (tp (sk L tp ρ.1.2.2))) (sk L tp ρ.1.2.2 + 1)) - (sk L tp ρ.1.2.2))) (b := 4) (by omega) (by omega)).mpr z9q)
                refine aw_aload_n (npc := 230) rfl dX1_advance_229 rfl ?_
                refine aw_iconst (npc := 231) (v := 5) (by decide) dX1_advance_230 rfl ?_
                refine aw_put (npc := 234) dX1_advance_231 rfl kf_X1_22 Rd2.1 (Nat.le_of_ble_eq_true rfl) (am_ok_int _) rfl ?_
                have Rd34 := rd_r2 (v := 5) Rd2
                refine aw_vret rfl dX1_advance_234 ?_
                have ea : adv L tp ρ.1 = (5, sk L tp ρ.1.2.2, rn L tp (so (tp (sk L tp ρ.1.2.2))) (sk L tp ρ.1.2.2 + 1)) := by
                  unfold adv nx
                  rw [hwd, if_neg (show ¬ L ≤ sk L tp ρ.1.2.2 by omega), if_neg hc30N]
                  exact if_pos (Or.inr ⟨hc32N, by have z9 := hc33N; omega⟩)
                exact hq _ ⟨_, _, Rd34, ((((pk_un (by omega))).trans p1).trans (show nI (rn L tp (so (tp (sk L tp ρ.1.2.2))) (sk L tp ρ.1.2.2 + 1)) = nI (adv L tp ρ.1).2.2 by rw [ea])), ((pk_us).trans (show nI (5) = nI (adv L tp ρ.1).1 by rw [ea])), ((((pk_un (by omega))).trans p23).trans (show nI (sk L tp ρ.1.2.2) = nI (adv L tp ρ.1).2.1 by rw [ea])), (((pk_un (by decide)).trans ((p2 4 (by decide)).trans ((pk_un (by decide)).trans ((pk_un (by decide)).trans ((pk_un (by decide)).trans (q2 4 (by decide))))))).trans m4), (((pk_un (by decide)).trans ((p2 5 (by decide)).trans ((pk_un (by decide)).trans ((pk_un (by decide)).trans ((pk_un (by decide)).trans (q2 5 (by decide))))))).trans m5), (((pk_un (by decide)).trans ((p2 7 (by decide)).trans ((pk_un (by decide)).trans ((pk_un (by decide)).trans ((pk_un (by decide)).trans (q2 7 (by decide))))))).trans m7), (((pk_un (by decide)).trans ((p2 8 (by decide)).trans ((pk_un (by decide)).trans ((pk_un (by decide)).trans ((pk_un (by decide)).trans (q2 8 (by decide))))))).trans m8), (((pk_un (by decide)).trans ((p2 9 (by decide)).trans ((pk_un (by decide)).trans ((pk_un (by decide)).trans ((pk_un (by decide)).trans (q2 9 (by decide))))))).trans m9), (((pk_un (by decide)).trans ((p2 10 (by decide)).trans ((pk_un (by decide)).trans ((pk_un (by decide)).trans ((pk_un (by decide)).trans (q2 10 (by decide))))))).trans m10), mc⟩ (am_fpU (show ¬ (39 < 39 ∨ 43 ≤ 39) by omega) (am_fpT f2 (am_fpU (show ¬ (39 < 39 ∨ 43 ≤ 39) by omega) (am_fpU (show ¬ (39 < 39 ∨ 43 ≤ 39) by omega) (am_fpU (show ¬ (39 < 39 ∨ 43 ≤ 39) by omega) f1)))))
          · have hc31N := (nI_eq (a := (sk L tp ρ.1.2.2)) (b := ρ.1.2.2) (by omega) (by omega)).mp hc31
            refine aw_iconst (npc := 199) (v := 1) (by decide) dX1_advance_198 rfl ?_
            refine aw_goto (npc := 203) dX1_advance_199 (by decide) ?_
            refine aw_istore_n (npc := 204) (L' := [some (.ref 39), some (.int (nI ρ.1.2.2)), some (.int 1), some (.int 1)]) dX1_advance_203 rfl (by decide) rfl rfl ?_
            refine aw_iload_n (npc := 205) rfl dX1_advance_204 rfl ?_
            refine aw_if_ne (npc := 208) (tgt := 229) dX1_advance_205 rfl (by decide) (fun _ => ?_) (fun hc => absurd hc (by decide))
            refine aw_aload_n (npc := 230) rfl dX1_advance_229 rfl ?_
            refine aw_iconst (npc := 231) (v := 5) (by decide) dX1_advance_230 rfl ?_
            refine aw_put (npc := 234) dX1_advance_231 rfl kf_X1_22 Rd2.1 (Nat.le_of_ble_eq_true rfl) (am_ok_int _) rfl ?_
            have Rd35 := rd_r2 (v := 5) Rd2
            refine aw_vret rfl dX1_advance_234 ?_
            have ea : adv L tp ρ.1 = (5, sk L tp ρ.1.2.2, rn L tp (so (tp (sk L tp ρ.1.2.2))) (sk L tp ρ.1.2.2 + 1)) := by
              unfold adv nx
              rw [hwd, if_neg (show ¬ L ≤ sk L tp ρ.1.2.2 by omega), if_neg hc30N]
              exact if_pos (Or.inl ⟨rfl, hc31N⟩)
            exact hq _ ⟨_, _, Rd35, ((((pk_un (by omega))).trans p1).trans (show nI (rn L tp (so (tp (sk L tp ρ.1.2.2))) (sk L tp ρ.1.2.2 + 1)) = nI (adv L tp ρ.1).2.2 by rw [ea])), ((pk_us).trans (show nI (5) = nI (adv L tp ρ.1).1 by rw [ea])), ((((pk_un (by omega))).trans p23).trans (show nI (sk L tp ρ.1.2.2) = nI (adv L tp ρ.1).2.1 by rw [ea])), (((pk_un (by decide)).trans ((p2 4 (by decide)).trans ((pk_un (by decide)).trans ((pk_un (by decide)).trans ((pk_un (by decide)).trans (q2 4 (by decide))))))).trans m4), (((pk_un (by decide)).trans ((p2 5 (by decide)).trans ((pk_un (by decide)).trans ((pk_un (by decide)).trans ((pk_un (by decide)).trans (q2 5 (by decide))))))).trans m5), (((pk_un (by decide)).trans ((p2 7 (by decide)).trans ((pk_un (by decide)).trans ((pk_un (by decide)).trans ((pk_un (by decide)).trans (q2 7 (by decide))))))).trans m7), (((pk_un (by decide)).trans ((p2 8 (by decide)).trans ((pk_un (by decide)).trans ((pk_un (by decide)).trans ((pk_un (by decide)).trans (q2 8 (by decide))))))).trans m8), (((pk_un (by decide)).trans ((p2 9 (by decide)).trans ((pk_un (by decide)).trans ((pk_un (by decide)).trans ((pk_un (by decide)).trans (q2 9 (by decide))))))).trans m9), (((pk_un (by decide)).trans ((p2 10 (by decide)).trans ((pk_un (by decide)).trans ((pk_un (by decide)).trans ((pk_un (by decide)).trans (q2 10 (by decide))))))).trans m10), mc⟩ (am_fpU (show ¬ (39 < 39 ∨ 43 ≤ 39) by omega) (am_fpT f2 (am_fpU (show ¬ (39 < 39 ∨ 43 ≤ 39) by omega) (am_fpU (show ¬ (39 < 39 ∨ 43 ≤ 39) by omega) (am_fpU (show ¬ (39 < 39 ∨ 43 ≤ 39) by omega) f1)))))
        · have hc30N := (nI_eq (a := (so (tp (sk L tp ρ.1.2.2)))) (b := 3) (by omega) (by omega)).mp hc30
          refine aw_vret rfl dX1_advance_136 ?_
          have ea : adv L tp ρ.1 = (3, sk L tp ρ.1.2.2, sk L tp ρ.1.2.2 + 1) := (if_neg (by omega)).trans (if_pos hc30N)
          exact hq _ ⟨_, _, Rd29, ((pk_us).trans (show nI (sk L tp ρ.1.2.2 + 1) = nI (adv L tp ρ.1).2.2 by rw [ea])), ((((pk_un (by omega))).trans pk_us).trans (show nI (so (tp (sk L tp ρ.1.2.2))) = nI (adv L tp ρ.1).1 by rw [ea]; exact congrArg nI hc30N)), (((((pk_un (by omega))).trans (pk_un (by omega))).trans pk_us).trans (show nI (sk L tp ρ.1.2.2) = nI (adv L tp ρ.1).2.1 by rw [ea])), (((pk_un (by decide)).trans ((pk_un (by decide)).trans ((pk_un (by decide)).trans (q2 4 (by decide))))).trans m4), (((pk_un (by decide)).trans ((pk_un (by decide)).trans ((pk_un (by decide)).trans (q2 5 (by decide))))).trans m5), (((pk_un (by decide)).trans ((pk_un (by decide)).trans ((pk_un (by decide)).trans (q2 7 (by decide))))).trans m7), (((pk_un (by decide)).trans ((pk_un (by decide)).trans ((pk_un (by decide)).trans (q2 8 (by decide))))).trans m8), (((pk_un (by decide)).trans ((pk_un (by decide)).trans ((pk_un (by decide)).trans (q2 9 (by decide))))).trans m9), (((pk_un (by decide)).trans ((pk_un (by decide)).trans ((pk_un (by decide)).trans (q2 10 (by decide))))).trans m10), mc⟩ (am_fpU (show ¬ (39 < 39 ∨ 43 ≤ 39) by omega) (am_fpU (show ¬ (39 < 39 ∨ 43 ≤ 39) by omega) (am_fpU (show ¬ (39 < 39 ∨ 43 ≤ 39) by omega) f1)))
      · have hc26N : ¬ (sk L tp ρ.1.2.2) < L := fun z9q => hc26 ((nI_ltI (a := (sk L tp ρ.1.2.2)) (b := L) (by omega) (by omega)).mpr z9q)
        refine aw_aload_n (npc := 94) rfl dX1_advance_93 rfl ?_
        refine aw_iconst (npc := 95) (v := 0) (by decide) dX1_advance_94 rfl ?_
        refine aw_put (npc := 98) dX1_advance_95 rfl kf_X1_22 Rd25.1 (Nat.le_of_ble_eq_true rfl) (am_ok_int _) rfl ?_
        have Rd36 := rd_r2 (v := 0) Rd25
        refine aw_vret rfl dX1_advance_98 ?_
        have ea : adv L tp ρ.1 = (0, sk L tp ρ.1.2.2, sk L tp ρ.1.2.2) := if_pos (by omega)
        exact hq _ ⟨_, _, Rd36, (((((pk_un (by omega))).trans (pk_un (by omega))).trans q1).trans (show nI (sk L tp ρ.1.2.2) = nI (adv L tp ρ.1).2.2 by rw [ea])), ((pk_us).trans (show nI (0) = nI (adv L tp ρ.1).1 by rw [ea])), ((((pk_un (by omega))).trans pk_us).trans (show nI (sk L tp ρ.1.2.2) = nI (adv L tp ρ.1).2.1 by rw [ea])), (((pk_un (by decide)).trans ((pk_un (by decide)).trans (q2 4 (by decide)))).trans m4), (((pk_un (by decide)).trans ((pk_un (by decide)).trans (q2 5 (by decide)))).trans m5), (((pk_un (by decide)).trans ((pk_un (by decide)).trans (q2 7 (by decide)))).trans m7), (((pk_un (by decide)).trans ((pk_un (by decide)).trans (q2 8 (by decide)))).trans m8), (((pk_un (by decide)).trans ((pk_un (by decide)).trans (q2 9 (by decide)))).trans m9), (((pk_un (by decide)).trans ((pk_un (by decide)).trans (q2 10 (by decide)))).trans m10), mc⟩ (am_fpU (show ¬ (39 < 39 ∨ 43 ≤ 39) by omega) (am_fpU (show ¬ (39 < 39 ∨ 43 ≤ 39) by omega) f1))
theorem wr_fl {L : Nat} {tp : Nat → Int32} {ρ : RS} (h : WR L tp ρ) : WR L tp (flF ρ) := by
  obtain ⟨h1, h2, h3, h4, h5, h6⟩ := h
  refine ⟨h1, h2, h3, h4, h5, fun q hq => ?_⟩
  have hq2 : flO ρ.2.1 ρ.1.2.1 = some q := hq
  unfold flO at hq2
  split at hq2
  · have z := Option.some.inj hq2
    have z1 := h1.1
    have z2 := h1.2.1
    omega
  · rename_i e
    exact h6 q (e.trans hq2)
theorem emL_le {cs : List Int32} {c : Int32} (h : cs.length ≤ 96) : (emL cs c).length ≤ 96 := by
  unfold emL
  split
  · rw [List.length_append, List.length_singleton]; omega
  · exact h
theorem wr_em {L : Nat} {tp : Nat → Int32} {ρ : RS} {c : Int32} (h : WR L tp ρ) : WR L tp (emF c ρ) := ⟨h.1, h.2.1, emL_le h.2.2.1, h.2.2.2⟩
theorem wr_eo {L : Nat} {tp : Nat → Int32} {ρ : RS} {c : Int32} (h : WR L tp ρ) : WR L tp (eoF c ρ) := ⟨h.1, h.2.1, emL_le h.2.2.1, h.2.2.2⟩
theorem wr_av {L : Nat} {tp : Nat → Int32} {ρ : RS} (h : WR L tp ρ) : WR L tp (avF L tp ρ) := ⟨(adv_wf h.1).1, h.2⟩
theorem wr_ob {L : Nat} {tp : Nat → Int32} {ρ : RS} {b : Nat} (hb : b ≤ 8) (h : WR L tp ρ) : WR L tp (obF ρ b) := ⟨h.1, h.2.1, h.2.2.1, hb, h.2.2.2.2⟩
theorem wr_og {L : Nat} {tp : Nat → Int32} {ρ : RS} {g : Nat} (hg : g ≤ 8) (h : WR L tp ρ) : WR L tp (ogF ρ g) := ⟨h.1, h.2.1, h.2.2.1, h.2.2.2.1, hg, h.2.2.2.2.2⟩
theorem rx_frame {ρ : RS} {L : Nat} {tp : Nat → Int32} {h h' : am_H} (H : RX ρ L tp h) (hf : ∀ k, 39 ≤ k → k < 43 → h' k = h k) : RX ρ L tp h' := by
  obtain ⟨r, cd, F, M⟩ := H
  exact ⟨r, cd, rd_frame F hf, M⟩
set_option maxHeartbeats 4000000 in
set_option maxRecDepth 100000 in
theorem r_eo {X : List Int32} {d rc rs n : Nat} {Q : am_Q} {h : am_H} {L : Nat} {tp : Nat → Int32} {ρ : RS} {c : Int32} (H : RX ρ L tp h) (Wf : WR L tp ρ) (hq : ∀ h9, RX (eoF c ρ) L tp h9 → am_fp (fun k => k < 39 ∨ 43 ≤ k) h9 h → Q none n h9) : AW X mX1_emitOperand (d + 3) rc rs 0 [some (.ref 39), some (.int c)] [] n h Q := by
  refine aw_aload_n (npc := 1) rfl dX1_emitOperand_0 rfl ?_
  refine aw_dup (npc := 2) rfl dX1_emitOperand_1 rfl ?_
  obtain ⟨r1u, cd1u, Rd1u, m1_1, m2_1, m3_1, m4_1, m5_1, m7_1, m8_1, m9_1, m10_1, mc_1⟩ := id H
  refine aw_get (npc := 5) dX1_emitOperand_2 rfl kf_X1_41 Rd1u.1 rfl ?_
  refine aw_top (y := nI ρ.2.2.2.2.1) (m8_1) ?_
  refine aw_iconst (npc := 6) (v := 1) (by decide) dX1_emitOperand_5 rfl ?_
  refine aw_iaddV (npc := 7) (v := nI (ρ.2.2.2.2.1 + 1)) dX1_emitOperand_6 rfl (nI_add _ 1) ?_
  refine aw_put (npc := 10) dX1_emitOperand_7 rfl kf_X1_41 Rd1u.1 (Nat.le_of_ble_eq_true rfl) (am_ok_int _) rfl ?_
  have Rd1 := rd_r8 (v := nI (ρ.2.2.2.2.1 + 1)) Rd1u
  have Hp2 : RX ((ρ.1, ρ.2.1, ρ.2.2.1, ρ.2.2.2.1, ρ.2.2.2.2.1 + 1, ρ.2.2.2.2.2)) L tp _ := ⟨_, _, Rd1, (((pk_un (by omega))).trans m1_1), (((pk_un (by omega))).trans m2_1), (((pk_un (by omega))).trans m3_1), (((pk_un (by omega))).trans m4_1), (((pk_un (by omega))).trans m5_1), (((pk_un (by omega))).trans m7_1), (pk_us), (((pk_un (by omega))).trans m9_1), (((pk_un (by omega))).trans m10_1), mc_1⟩
  have Wf3 : WR L tp ((ρ.1, ρ.2.1, ρ.2.2.1, ρ.2.2.2.1, ρ.2.2.2.2.1 + 1, ρ.2.2.2.2.2)) := Wf
  refine aw_aload_n (npc := 11) rfl dX1_emitOperand_10 rfl ?_
  refine aw_iload_n (npc := 12) rfl dX1_emitOperand_11 rfl ?_
  obtain ⟨r2u, cd2u, Rd2u, m1_2, m2_2, m3_2, m4_2, m5_2, m7_2, m8_2, m9_2, m10_2, mc_2⟩ := id Hp2
  refine aw_callV (npc := 15) (N := mX1_emit) (b := 39) (mc := 0) (ms := 0) (A := [.int c]) (S := []) (L0 := [some (.ref 39), some (.int c)]) dX1_emitOperand_12 rfl km_X1_emit kk_X1_109 Rd2u.1 ⟨by decide, rfl⟩ rfl ⟨rfl, by decide⟩ rfl (Nat.le_of_ble_eq_true rfl) (Nat.zero_add _) (Nat.zero_add _) rfl ?_
  refine r_emit (c := c) Hp2 Wf3 (fun hp4 Hr5 fz6 => ?_)
  have fyfz6 : ∀ k, (k < 39 ∨ 43 ≤ k) → hp4 k = _ := fun k hk => fz6 k hk
  have Wf7 : WR L tp (emF c (ρ.1, ρ.2.1, ρ.2.2.1, ρ.2.2.2.1, ρ.2.2.2.2.1 + 1, ρ.2.2.2.2.2)) := wr_em Wf3
  refine aw_vret rfl dX1_emitOperand_15 ?_
  exact hq _ Hr5 (am_fpT (fun k (hk : k < 39 ∨ 43 ≤ k) => fyfz6 k (by omega)) (am_fpU (show ¬ (39 < 39 ∨ 43 ≤ 39) by omega) am_fp0))
set_option maxHeartbeats 4000000 in
set_option maxRecDepth 100000 in
theorem r_isSign {X : List Int32} {d rc rs n : Nat} {Q : am_Q} {h : am_H} {L : Nat} {tp : Nat → Int32} {ρ : RS} {c : Int32} (H : RX ρ L tp h) (Wf : WR L tp ρ) (k1 : isSg tp ρ c → Q (some (.int 1)) n h) (k0 : ¬ isSg tp ρ c → Q (some (.int 0)) n h) : AW X mX1_isSign (d + 1) rc rs 0 [some (.ref 39), some (.int c)] [] n h Q := by
  obtain ⟨wk, w96, wcl, wob, wog, wft⟩ := id Wf
  have we := wk.1
  have wf := wk.2.1
  have wt := wk.2.2.1
  refine aw_aload_n (npc := 1) rfl dX1_isSign_0 rfl ?_
  obtain ⟨r3u, cd3u, Rd3u, m1_3, m2_3, m3_3, m4_3, m5_3, m7_3, m8_3, m9_3, m10_3, mc_3⟩ := id H
  refine aw_get (npc := 4) dX1_isSign_1 rfl kf_X1_28 Rd3u.1 rfl ?_
  refine aw_top (y := fI ρ.2.1) (m4_3) ?_
  refine aw_if_ge (npc := 7) (tgt := 35) dX1_isSign_4 rfl (by decide) (fun hc1 => ?_) (fun hc1 => ?_)
  · refine aw_iconst (npc := 36) (v := 0) (by decide) dX1_isSign_35 rfl ?_
    refine aw_zret rfl rfl dX1_isSign_36 ?_
    exact k0 (fun z => absurd ((fI_neg wft).mpr z.1) (Int32.not_lt.mpr hc1))
  · refine aw_aload_n (npc := 8) rfl dX1_isSign_7 rfl ?_
    refine aw_get (npc := 11) dX1_isSign_8 rfl kf_X1_22 Rd3u.1 rfl ?_
    refine aw_top (y := nI ρ.1.1) (m2_3) ?_
    refine aw_iconst (npc := 12) (v := 3) (by decide) dX1_isSign_11 rfl ?_
    refine aw_icmp_ne (npc := 15) (tgt := 35) dX1_isSign_12 rfl (by decide) (fun hc2 => ?_) (fun hc2 => ?_)
    · have hc2N : ¬ ρ.1.1 = 3 := fun z9q => hc2 ((nI_eq (a := ρ.1.1) (b := 3) (by omega) (by omega)).mpr z9q)
      refine aw_iconst (npc := 36) (v := 0) (by decide) dX1_isSign_35 rfl ?_
      refine aw_zret rfl rfl dX1_isSign_36 ?_
      exact k0 (fun z => hc2N z.2.1)
    · have hc2N := (nI_eq (a := ρ.1.1) (b := 3) (by omega) (by omega)).mp hc2
      refine aw_aload_n (npc := 16) rfl dX1_isSign_15 rfl ?_
      refine aw_get (npc := 19) dX1_isSign_16 rfl kf_X1_12 Rd3u.1 rfl ?_
      refine aw_get (npc := 22) dX1_isSign_19 rfl kf_X1_76 Rd3u.2.1 rfl ?_
      refine aw_aload_n (npc := 23) rfl dX1_isSign_22 rfl ?_
      refine aw_get (npc := 26) dX1_isSign_23 rfl kf_X1_25 Rd3u.1 rfl ?_
      refine aw_top (y := nI ρ.1.2.1) (m3_3) ?_
      have wf3 : ρ.1.2.1 < ρ.1.2.2 := wk.2.2.2.2.2.1 (by omega)
      refine aw_iald (npc := 27) (x := tp ρ.1.2.1) (j := ρ.1.2.1) dX1_isSign_26 rfl Rd3u.2.2.1 (am_ix_nI (by omega)) (tl_at (by omega)) ?_
      refine aw_iload_n (npc := 28) rfl dX1_isSign_27 rfl ?_
      refine aw_icmp_ne (npc := 31) (tgt := 35) dX1_isSign_28 rfl (by decide) (fun hc3 => ?_) (fun hc3 => ?_)
      · refine aw_iconst (npc := 36) (v := 0) (by decide) dX1_isSign_35 rfl ?_
        refine aw_zret rfl rfl dX1_isSign_36 ?_
        exact k0 (fun z => hc3 z.2.2)
      · refine aw_iconst (npc := 32) (v := 1) (by decide) dX1_isSign_31 rfl ?_
        refine aw_goto (npc := 36) dX1_isSign_32 (by decide) ?_
        refine aw_zret rfl rfl dX1_isSign_36 ?_
        exact k1 ⟨(fI_neg wft).mp (Int32.not_le.mp hc1), hc2N, hc3⟩
def nuV (tp : Nat → Int32) : Nat → Nat → Int32 → Int32
  | 0, _, s => s
  | m + 1, i, s => nuV tp m (i + 1) (s * 10 + tp i - 48)
def numF (tp : Nat → Int32) (ρ : RS) : Int32 := nuV tp (ρ.1.2.2 - ρ.1.2.1) ρ.1.2.1 0
set_option maxHeartbeats 4000000 in
set_option maxRecDepth 100000 in
theorem r_numL {X : List Int32} {d rc rs n : Nat} {Q : am_Q} {h : am_H} {L : Nat} {tp : Nat → Int32} {ρ : RS} (H : RX ρ L tp h) (Wf : WR L tp ρ) : ∀ (m i : Nat), i + m = ρ.1.2.2 → ∀ (s : Int32), Q (some (.int (nuV tp m i s))) n h → AW X mX1_numberRead (d + 1) rc rs 7 [some (.ref 39), some (.int s), some (.int (nI i))] [] n h Q := by
  obtain ⟨wk, w96, wcl, wob, wog, wft⟩ := id Wf
  have we := wk.1
  have wf := wk.2.1
  have wt := wk.2.2.1
  intro m
  induction m with
  | zero =>
    intro i hi s hq
    refine aw_iload_n (npc := 8) rfl dX1_numberRead_7 rfl ?_
    refine aw_aload_n (npc := 9) rfl dX1_numberRead_8 rfl ?_
    obtain ⟨r5u, cd5u, Rd5u, m1_5, m2_5, m3_5, m4_5, m5_5, m7_5, m8_5, m9_5, m10_5, mc_5⟩ := id H
    refine aw_get (npc := 12) dX1_numberRead_9 rfl kf_X1_18 Rd5u.1 rfl ?_
    refine aw_top (y := nI ρ.1.2.2) (m1_5) ?_
    refine aw_icmp_ge (npc := 15) (tgt := 39) dX1_numberRead_12 rfl (by decide) (fun _ => ?_) (fun hc => absurd (nI_le (a := ρ.1.2.2) (b := i) (by omega) (by omega)) hc)
    refine aw_iload_n (npc := 40) rfl dX1_numberRead_39 rfl ?_
    refine aw_iret rfl dX1_numberRead_40 ?_
    exact hq
  | succ m ih =>
    intro i hi s hq
    refine aw_iload_n (npc := 8) rfl dX1_numberRead_7 rfl ?_
    refine aw_aload_n (npc := 9) rfl dX1_numberRead_8 rfl ?_
    obtain ⟨r4u, cd4u, Rd4u, m1_4, m2_4, m3_4, m4_4, m5_4, m7_4, m8_4, m9_4, m10_4, mc_4⟩ := id H
    refine aw_get (npc := 12) dX1_numberRead_9 rfl kf_X1_18 Rd4u.1 rfl ?_
    refine aw_top (y := nI ρ.1.2.2) (m1_4) ?_
    refine aw_icmp_ge (npc := 15) (tgt := 39) dX1_numberRead_12 rfl (by decide) (fun hc => absurd hc (nI_ge (a := i) (b := ρ.1.2.2) (by omega) (by omega))) (fun _ => ?_)
    refine aw_iload_n (npc := 16) rfl dX1_numberRead_15 rfl ?_
    refine aw_bipush (npc := 18) (v := 10) (by decide) dX1_numberRead_16 rfl ?_
    refine aw_imul (npc := 19) dX1_numberRead_18 rfl ?_
    refine aw_aload_n (npc := 20) rfl dX1_numberRead_19 rfl ?_
    refine aw_get (npc := 23) dX1_numberRead_20 rfl kf_X1_12 Rd4u.1 rfl ?_
    refine aw_get (npc := 26) dX1_numberRead_23 rfl kf_X1_76 Rd4u.2.1 rfl ?_
    refine aw_iload_n (npc := 27) rfl dX1_numberRead_26 rfl ?_
    refine aw_iald (npc := 28) (x := tp i) (j := i) dX1_numberRead_27 rfl Rd4u.2.2.1 (am_ix_nI (by omega)) (tl_at (by omega)) ?_
    refine aw_iadd (npc := 29) dX1_numberRead_28 rfl ?_
    refine aw_bipush (npc := 31) (v := 48) (by decide) dX1_numberRead_29 rfl ?_
    refine aw_isub (npc := 32) dX1_numberRead_31 rfl ?_
    refine aw_istore_n (npc := 33) (L' := [some (.ref 39), some (.int (((s * 10) + (tp i)) - 48)), some (.int (nI i))]) dX1_numberRead_32 rfl (by decide) rfl rfl ?_
    refine aw_iinc (npc := 36) (v := nI (i + 1)) (L' := [some (.ref 39), some (.int (((s * 10) + (tp i)) - 48)), some (.int (nI (i + 1)))]) dX1_numberRead_33 rfl rfl (nI_1 _) (by decide) rfl rfl ?_
    refine aw_goto (npc := 7) dX1_numberRead_36 (by decide) ?_
    exact ih (i + 1) (by omega) _ hq
set_option maxHeartbeats 4000000 in
set_option maxRecDepth 100000 in
theorem r_num {X : List Int32} {d rc rs n : Nat} {Q : am_Q} {h : am_H} {L : Nat} {tp : Nat → Int32} {ρ : RS} (H : RX ρ L tp h) (Wf : WR L tp ρ) (hq : Q (some (.int (numF tp ρ))) n h) : AW X mX1_numberRead (d + 1) rc rs 0 [some (.ref 39), none, none] [] n h Q := by
  obtain ⟨wk, w96, wcl, wob, wog, wft⟩ := id Wf
  have we := wk.1
  have wf := wk.2.1
  have wt := wk.2.2.1
  refine aw_iconst (npc := 1) (v := 0) (by decide) dX1_numberRead_0 rfl ?_
  refine aw_istore_n (npc := 2) (L' := [some (.ref 39), some (.int 0), none]) dX1_numberRead_1 rfl (by decide) rfl rfl ?_
  refine aw_aload_n (npc := 3) rfl dX1_numberRead_2 rfl ?_
  obtain ⟨r6u, cd6u, Rd6u, m1_6, m2_6, m3_6, m4_6, m5_6, m7_6, m8_6, m9_6, m10_6, mc_6⟩ := id H
  refine aw_get (npc := 6) dX1_numberRead_3 rfl kf_X1_25 Rd6u.1 rfl ?_
  refine aw_top (y := nI ρ.1.2.1) (m3_6) ?_
  refine aw_istore_n (npc := 7) (L' := [some (.ref 39), some (.int 0), some (.int (nI ρ.1.2.1))]) dX1_numberRead_6 rfl (by decide) rfl rfl ?_
  exact r_numL H Wf (ρ.1.2.2 - ρ.1.2.1) ρ.1.2.1 (by omega) 0 hq
def nameO (tp : Nat → Int32) (ρ : RS) : Option Nat := if ρ.1.1 = 1 ∧ ρ.1.2.2 = ρ.1.2.1 + 1 then nmF (if ρ.2.2.1 = 0 then 3 else if ρ.2.2.1 = 1 then 4 else 5) (fN (tp ρ.1.2.1)) else none
set_option maxHeartbeats 4000000 in
set_option maxRecDepth 100000 in
theorem r_name {X : List Int32} {d rc rs n : Nat} {Q : am_Q} {h : am_H} {L : Nat} {tp : Nat → Int32} {ρ : RS} (H : RX ρ L tp h) (Wf : WR L tp ρ) (hq : Q (some (.int (bI (nameO tp ρ)))) n h) : AW X mX1_nameRead (d + 8) rc rs 0 [some (.ref 39), none] [] n h Q := by
  obtain ⟨wk, w96, wcl, wob, wog, wft⟩ := id Wf
  have we := wk.1
  have wf := wk.2.1
  have wt := wk.2.2.1
  refine aw_aload_n (npc := 1) rfl dX1_nameRead_0 rfl ?_
  obtain ⟨r7u, cd7u, Rd7u, m1_7, m2_7, m3_7, m4_7, m5_7, m7_7, m8_7, m9_7, m10_7, mc_7⟩ := id H
  refine aw_get (npc := 4) dX1_nameRead_1 rfl kf_X1_22 Rd7u.1 rfl ?_
  refine aw_top (y := nI ρ.1.1) (m2_7) ?_
  refine aw_iconst (npc := 5) (v := 1) (by decide) dX1_nameRead_4 rfl ?_
  refine aw_icmp_ne (npc := 8) (tgt := 21) dX1_nameRead_5 rfl (by decide) (fun hc1 => ?_) (fun hc1 => ?_)
  · have hc1N : ¬ ρ.1.1 = 1 := fun z9q => hc1 ((nI_eq (a := ρ.1.1) (b := 1) (by omega) (by omega)).mpr z9q)
    refine aw_iconst (npc := 22) (v := -1) (by decide) dX1_nameRead_21 rfl ?_
    refine aw_iret rfl dX1_nameRead_22 ?_
    exact (show bI (nameO tp ρ) = -1 by unfold nameO; rw [if_neg (fun z => hc1N z.1)]; rfl) ▸ hq
  · have hc1N := (nI_eq (a := ρ.1.1) (b := 1) (by omega) (by omega)).mp hc1
    refine aw_aload_n (npc := 9) rfl dX1_nameRead_8 rfl ?_
    refine aw_get (npc := 12) dX1_nameRead_9 rfl kf_X1_18 Rd7u.1 rfl ?_
    refine aw_top (y := nI ρ.1.2.2) (m1_7) ?_
    refine aw_aload_n (npc := 13) rfl dX1_nameRead_12 rfl ?_
    refine aw_get (npc := 16) dX1_nameRead_13 rfl kf_X1_25 Rd7u.1 rfl ?_
    refine aw_top (y := nI ρ.1.2.1) (m3_7) ?_
    refine aw_isubV (npc := 17) (v := nI (ρ.1.2.2 - ρ.1.2.1)) dX1_nameRead_16 rfl (pk_sub (by omega)) ?_
    refine aw_iconst (npc := 18) (v := 1) (by decide) dX1_nameRead_17 rfl ?_
    refine aw_icmp_eq (npc := 21) (tgt := 23) dX1_nameRead_18 rfl (by decide) (fun hc2 => ?_) (fun hc2 => ?_)
    · have hc2N := (nI_eq (a := (ρ.1.2.2 - ρ.1.2.1)) (b := 1) (by omega) (by omega)).mp hc2
      refine aw_aload_n (npc := 24) rfl dX1_nameRead_23 rfl ?_
      refine aw_get (npc := 27) dX1_nameRead_24 rfl kf_X1_31 Rd7u.1 rfl ?_
      refine aw_top (y := ρ.2.2.1) (m5_7) ?_
      refine aw_if_ne (npc := 30) (tgt := 35) dX1_nameRead_27 rfl (by decide) (fun hc3 => ?_) (fun hc3 => ?_)
      · refine aw_aload_n (npc := 36) rfl dX1_nameRead_35 rfl ?_
        refine aw_get (npc := 39) dX1_nameRead_36 rfl kf_X1_31 Rd7u.1 rfl ?_
        refine aw_top (y := ρ.2.2.1) (m5_7) ?_
        refine aw_iconst (npc := 40) (v := 1) (by decide) dX1_nameRead_39 rfl ?_
        refine aw_icmp_ne (npc := 43) (tgt := 48) dX1_nameRead_40 rfl (by decide) (fun hc4 => ?_) (fun hc4 => ?_)
        · refine aw_ldcS (npc := 50) (i := 5) dX1_nameRead_48 rfl rfl rfl ?_
          refine aw_astore_n (npc := 51) (L' := [some (.ref 39), some (.ref (1000002 + 5))]) dX1_nameRead_50 rfl (by decide) rfl rfl ?_
          obtain ⟨v, hv1, hv2, ev⟩ := so_let (wk.2.2.2.2.2.2.1 hc1N ρ.1.2.1 (Nat.le_refl _) (by omega))
          refine aw_aload_n (npc := 52) rfl dX1_nameRead_51 rfl ?_
          refine aw_aload_n (npc := 53) rfl dX1_nameRead_52 rfl ?_
          refine aw_get (npc := 56) dX1_nameRead_53 rfl kf_X1_12 Rd7u.1 rfl ?_
          refine aw_get (npc := 59) dX1_nameRead_56 rfl kf_X1_76 Rd7u.2.1 rfl ?_
          refine aw_aload_n (npc := 60) rfl dX1_nameRead_59 rfl ?_
          refine aw_get (npc := 63) dX1_nameRead_60 rfl kf_X1_25 Rd7u.1 rfl ?_
          refine aw_top (y := nI ρ.1.2.1) (m3_7) ?_
          refine aw_iald (npc := 64) (x := tp ρ.1.2.1) (j := ρ.1.2.1) dX1_nameRead_63 rfl Rd7u.2.2.1 (am_ix_nI (by omega)) (tl_at (by omega)) ?_
          refine aw_top (y := nI v) ev ?_
          refine aw_i2c (npc := 65) dX1_nameRead_64 rfl ?_
          refine aw_top (y := nI v) (i2c_id (by omega)) ?_
          refine aw_callVS (npc := 68) (N := mJ0_indexOf_0f7a4) (i := 5) (mc := 0) (ms := 0) (A := [.int (nI v)]) (S := []) (L0 := [some (.ref (1000002 + 5)), some (.int (nI v))]) dX1_nameRead_65 rfl km_J0_indexOf_0f7a4 kk_X1_143 (by omega) rfl rfl ⟨rfl, by decide⟩ rfl (Nat.le_of_ble_eq_true rfl) (Nat.zero_add _) (Nat.zero_add _) rfl ?_
          refine c_sidx5 (v := v) (by omega) ?_
          refine aw_re (S' := [.int (bI (nmF 5 v))]) rfl ?_
          refine aw_iret rfl dX1_nameRead_68 ?_
          exact (show bI (nameO tp ρ) = bI (nmF 5 v) by unfold nameO; rw [if_pos (show ρ.1.1 = 1 ∧ ρ.1.2.2 = ρ.1.2.1 + 1 from ⟨hc1N, by omega⟩), ev, fN_nI (by omega), if_neg hc3, if_neg hc4]) ▸ hq
        · refine aw_ldcS (npc := 45) (i := 4) dX1_nameRead_43 rfl rfl rfl ?_
          refine aw_goto (npc := 50) dX1_nameRead_45 (by decide) ?_
          refine aw_astore_n (npc := 51) (L' := [some (.ref 39), some (.ref (1000002 + 4))]) dX1_nameRead_50 rfl (by decide) rfl rfl ?_
          obtain ⟨v, hv1, hv2, ev⟩ := so_let (wk.2.2.2.2.2.2.1 hc1N ρ.1.2.1 (Nat.le_refl _) (by omega))
          refine aw_aload_n (npc := 52) rfl dX1_nameRead_51 rfl ?_
          refine aw_aload_n (npc := 53) rfl dX1_nameRead_52 rfl ?_
          refine aw_get (npc := 56) dX1_nameRead_53 rfl kf_X1_12 Rd7u.1 rfl ?_
          refine aw_get (npc := 59) dX1_nameRead_56 rfl kf_X1_76 Rd7u.2.1 rfl ?_
          refine aw_aload_n (npc := 60) rfl dX1_nameRead_59 rfl ?_
          refine aw_get (npc := 63) dX1_nameRead_60 rfl kf_X1_25 Rd7u.1 rfl ?_
          refine aw_top (y := nI ρ.1.2.1) (m3_7) ?_
          refine aw_iald (npc := 64) (x := tp ρ.1.2.1) (j := ρ.1.2.1) dX1_nameRead_63 rfl Rd7u.2.2.1 (am_ix_nI (by omega)) (tl_at (by omega)) ?_
          refine aw_top (y := nI v) ev ?_
          refine aw_i2c (npc := 65) dX1_nameRead_64 rfl ?_
          refine aw_top (y := nI v) (i2c_id (by omega)) ?_
          refine aw_callVS (npc := 68) (N := mJ0_indexOf_0f7a4) (i := 4) (mc := 0) (ms := 0) (A := [.int (nI v)]) (S := []) (L0 := [some (.ref (1000002 + 4)), some (.int (nI v))]) dX1_nameRead_65 rfl km_J0_indexOf_0f7a4 kk_X1_143 (by omega) rfl rfl ⟨rfl, by decide⟩ rfl (Nat.le_of_ble_eq_true rfl) (Nat.zero_add _) (Nat.zero_add _) rfl ?_
          refine c_sidx4 (v := v) (by omega) ?_
          refine aw_re (S' := [.int (bI (nmF 4 v))]) rfl ?_
          refine aw_iret rfl dX1_nameRead_68 ?_
          exact (show bI (nameO tp ρ) = bI (nmF 4 v) by unfold nameO; rw [if_pos (show ρ.1.1 = 1 ∧ ρ.1.2.2 = ρ.1.2.1 + 1 from ⟨hc1N, by omega⟩), ev, fN_nI (by omega), if_neg hc3, if_pos hc4]) ▸ hq
      · refine aw_ldcS (npc := 32) (i := 3) dX1_nameRead_30 rfl rfl rfl ?_
        refine aw_goto (npc := 50) dX1_nameRead_32 (by decide) ?_
        refine aw_astore_n (npc := 51) (L' := [some (.ref 39), some (.ref (1000002 + 3))]) dX1_nameRead_50 rfl (by decide) rfl rfl ?_
        obtain ⟨v, hv1, hv2, ev⟩ := so_let (wk.2.2.2.2.2.2.1 hc1N ρ.1.2.1 (Nat.le_refl _) (by omega))
        refine aw_aload_n (npc := 52) rfl dX1_nameRead_51 rfl ?_
        refine aw_aload_n (npc := 53) rfl dX1_nameRead_52 rfl ?_
        refine aw_get (npc := 56) dX1_nameRead_53 rfl kf_X1_12 Rd7u.1 rfl ?_
        refine aw_get (npc := 59) dX1_nameRead_56 rfl kf_X1_76 Rd7u.2.1 rfl ?_
        refine aw_aload_n (npc := 60) rfl dX1_nameRead_59 rfl ?_
        refine aw_get (npc := 63) dX1_nameRead_60 rfl kf_X1_25 Rd7u.1 rfl ?_
        refine aw_top (y := nI ρ.1.2.1) (m3_7) ?_
        refine aw_iald (npc := 64) (x := tp ρ.1.2.1) (j := ρ.1.2.1) dX1_nameRead_63 rfl Rd7u.2.2.1 (am_ix_nI (by omega)) (tl_at (by omega)) ?_
        refine aw_top (y := nI v) ev ?_
        refine aw_i2c (npc := 65) dX1_nameRead_64 rfl ?_
        refine aw_top (y := nI v) (i2c_id (by omega)) ?_
        refine aw_callVS (npc := 68) (N := mJ0_indexOf_0f7a4) (i := 3) (mc := 0) (ms := 0) (A := [.int (nI v)]) (S := []) (L0 := [some (.ref (1000002 + 3)), some (.int (nI v))]) dX1_nameRead_65 rfl km_J0_indexOf_0f7a4 kk_X1_143 (by omega) rfl rfl ⟨rfl, by decide⟩ rfl (Nat.le_of_ble_eq_true rfl) (Nat.zero_add _) (Nat.zero_add _) rfl ?_
        refine c_sidx3 (v := v) (by omega) ?_
        refine aw_re (S' := [.int (bI (nmF 3 v))]) rfl ?_
        refine aw_iret rfl dX1_nameRead_68 ?_
        exact (show bI (nameO tp ρ) = bI (nmF 3 v) by unfold nameO; rw [if_pos (show ρ.1.1 = 1 ∧ ρ.1.2.2 = ρ.1.2.1 + 1 from ⟨hc1N, by omega⟩), ev, fN_nI (by omega), if_pos hc3]) ▸ hq
    · have hc2N : ¬ (ρ.1.2.2 - ρ.1.2.1) = 1 := fun z9q => hc2 ((nI_eq (a := (ρ.1.2.2 - ρ.1.2.1)) (b := 1) (by omega) (by omega)).mpr z9q)
      refine aw_iconst (npc := 22) (v := -1) (by decide) dX1_nameRead_21 rfl ?_
      refine aw_iret rfl dX1_nameRead_22 ?_
      exact (show bI (nameO tp ρ) = -1 by unfold nameO; rw [if_neg (fun z => hc2N (by omega))]; rfl) ▸ hq
