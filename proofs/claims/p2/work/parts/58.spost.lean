def ush (v k : Int32) : Int32 := (v.toUInt32 >>> (k.toUInt32 &&& Int32.toUInt32 31)).toInt32
def sar (v k : Int32) : Int32 := v >>> (k &&& 31)
def byt (v k : Int32) : Int32 := ush v k &&& 255
theorem byt_24 (v : Int32) : sar v 24 &&& (255 : Int32) = byt v 24 := by
  have h1 : sar v 24 &&& (255 : Int32) = nI ((sar v 24).toBitVec.toNat % 2 ^ 8) := pk_and _ 8 (by decide)
  have h2 : ush v 24 &&& (255 : Int32) = nI ((ush v 24).toBitVec.toNat % 2 ^ 8) := pk_and _ 8 (by decide)
  have h3 : (ush v 24).toBitVec.toNat = v.toBitVec.toNat / 2 ^ 24 := pk_ushr v 24 24 (by decide)
  unfold byt
  rw [h1, h2, h3]
  refine congrArg nI ?_
  have e : (sar v 24).toInt = v.toInt >>> 24 := pk_shr v _ _ (by decide)
  have hb := v.toBitVec.isLt
  have hb2 := (sar v 24).toBitVec.isLt
  have e2 : v.toInt = v.toBitVec.toInt := rfl
  have e3 : (sar v 24).toInt = (sar v 24).toBitVec.toInt := rfl
  rw [e2, e3, BitVec.toInt_eq_toNat_cond, BitVec.toInt_eq_toNat_cond, Int.shiftRight_eq_div_pow] at e
  generalize (sar v 24).toBitVec.toNat = A at *
  generalize v.toBitVec.toNat = B at *
  clear e2 e3 h1 h2 h3
  split at e <;> split at e <;> omega
theorem byt_16 (v : Int32) : sar v 16 &&& (255 : Int32) = byt v 16 := by
  have h1 : sar v 16 &&& (255 : Int32) = nI ((sar v 16).toBitVec.toNat % 2 ^ 8) := pk_and _ 8 (by decide)
  have h2 : ush v 16 &&& (255 : Int32) = nI ((ush v 16).toBitVec.toNat % 2 ^ 8) := pk_and _ 8 (by decide)
  have h3 : (ush v 16).toBitVec.toNat = v.toBitVec.toNat / 2 ^ 16 := pk_ushr v 16 16 (by decide)
  unfold byt
  rw [h1, h2, h3]
  refine congrArg nI ?_
  have e : (sar v 16).toInt = v.toInt >>> 16 := pk_shr v _ _ (by decide)
  have hb := v.toBitVec.isLt
  have hb2 := (sar v 16).toBitVec.isLt
  have e2 : v.toInt = v.toBitVec.toInt := rfl
  have e3 : (sar v 16).toInt = (sar v 16).toBitVec.toInt := rfl
  rw [e2, e3, BitVec.toInt_eq_toNat_cond, BitVec.toInt_eq_toNat_cond, Int.shiftRight_eq_div_pow] at e
  generalize (sar v 16).toBitVec.toNat = A at *
  generalize v.toBitVec.toNat = B at *
  clear e2 e3 h1 h2 h3
  split at e <;> split at e <;> omega
theorem byt_8 (v : Int32) : sar v 8 &&& (255 : Int32) = byt v 8 := by
  have h1 : sar v 8 &&& (255 : Int32) = nI ((sar v 8).toBitVec.toNat % 2 ^ 8) := pk_and _ 8 (by decide)
  have h2 : ush v 8 &&& (255 : Int32) = nI ((ush v 8).toBitVec.toNat % 2 ^ 8) := pk_and _ 8 (by decide)
  have h3 : (ush v 8).toBitVec.toNat = v.toBitVec.toNat / 2 ^ 8 := pk_ushr v 8 8 (by decide)
  unfold byt
  rw [h1, h2, h3]
  refine congrArg nI ?_
  have e : (sar v 8).toInt = v.toInt >>> 8 := pk_shr v _ _ (by decide)
  have hb := v.toBitVec.isLt
  have hb2 := (sar v 8).toBitVec.isLt
  have e2 : v.toInt = v.toBitVec.toInt := rfl
  have e3 : (sar v 8).toInt = (sar v 8).toBitVec.toInt := rfl
  rw [e2, e3, BitVec.toInt_eq_toNat_cond, BitVec.toInt_eq_toNat_cond, Int.shiftRight_eq_div_pow] at e
  generalize (sar v 8).toBitVec.toNat = A at *
  generalize v.toBitVec.toNat = B at *
  clear e2 e3 h1 h2 h3
  split at e <;> split at e <;> omega
theorem byt_0 (v : Int32) : sar v 0 &&& (255 : Int32) = byt v 0 := by
  have h1 : sar v 0 &&& (255 : Int32) = nI ((sar v 0).toBitVec.toNat % 2 ^ 8) := pk_and _ 8 (by decide)
  have h2 : ush v 0 &&& (255 : Int32) = nI ((ush v 0).toBitVec.toNat % 2 ^ 8) := pk_and _ 8 (by decide)
  have h3 : (ush v 0).toBitVec.toNat = v.toBitVec.toNat / 2 ^ 0 := pk_ushr v 0 0 (by decide)
  unfold byt
  rw [h1, h2, h3]
  refine congrArg nI ?_
  have e : (sar v 0).toInt = v.toInt >>> 0 := pk_shr v _ _ (by decide)
  have hb := v.toBitVec.isLt
  have hb2 := (sar v 0).toBitVec.isLt
  have e2 : v.toInt = v.toBitVec.toInt := rfl
  have e3 : (sar v 0).toInt = (sar v 0).toBitVec.toInt := rfl
  rw [e2, e3, BitVec.toInt_eq_toNat_cond, BitVec.toInt_eq_toNat_cond, Int.shiftRight_eq_div_pow] at e
  generalize (sar v 0).toBitVec.toNat = A at *
  generalize v.toBitVec.toNat = B at *
  clear e2 e3 h1 h2 h3
  split at e <;> split at e <;> omega
def fd12 (tp : Nat → Int32) (L : Nat) (a b c : Int32) : Nat → Int32 := upd (upd (upd (upd (upd (upd (upd (upd (upd (upd (upd (upd (tp) (L + 0) (byt a 24)) (L + 1) (byt a 16)) (L + 2) (byt a 8)) (L + 3) (byt a 0)) (L + 4) (byt b 24)) (L + 5) (byt b 16)) (L + 6) (byt b 8)) (L + 7) (byt b 0)) (L + 8) (byt c 24)) (L + 9) (byt c 16)) (L + 10) (byt c 8)) (L + 11) (byt c 0)
set_option maxHeartbeats 4000000 in
set_option maxRecDepth 100000 in
theorem C_feed {X : List Int32} {d rc rs n : Nat} {Q : am_Q} {h : am_H} {ik wc : Int32} {a : Int32} {b : Int32} {c : Int32} {r tp cd : Nat → Int32} {L : Nat} (O : OB ik wc h) (Rd : RD r (nI L) tp cd h) (hL96 : L ≤ 96) (k1 : 96 < L + 12 → Q (some (.int (-1000000003))) n h) (k0 : L + 12 ≤ 96 → ∀ h9, RD r (nI (L + 12)) (fd12 tp L a b c) cd h9 → am_fp (fun k => k < 40 ∨ 42 ≤ k) h9 h → Q (some (.int (nI (L + 12)))) n h9) : AW X mX7_feed (d + 12) rc rs 0 [some (.ref 0), some (.int a), some (.int b), some (.int c)] [] n h Q := by
  refine aw_aload_n (npc := 1) rfl dX7_feed_0 rfl ?_
  refine aw_get (npc := 4) dX7_feed_1 rfl kf_X7_44 O.1 rfl ?_
  refine aw_get (npc := 7) dX7_feed_4 rfl kf_X7_234 Rd.2.1 rfl ?_
  refine aw_bipush (npc := 9) (v := 12) (by decide) dX7_feed_7 rfl ?_
  refine aw_iaddV (npc := 10) (v := nI (L + 12)) dX7_feed_9 rfl (nI_add _ 12) ?_
  refine aw_bipush (npc := 12) (v := 96) (by decide) dX7_feed_10 rfl ?_
  refine aw_icmp_le (npc := 15) (tgt := 18) dX7_feed_12 rfl (by decide) (fun hc1 => ?_) (fun hc1 => ?_)
  · have hc1N := (nI_leI (a := (L + 12)) (b := 96) (by omega) (by omega)).mp hc1
    refine aw_aload_n (npc := 19) rfl dX7_feed_18 rfl ?_
    refine aw_get (npc := 22) dX7_feed_19 rfl kf_X7_44 O.1 rfl ?_
    refine aw_iload_n (npc := 23) rfl dX7_feed_22 rfl ?_
    refine aw_callV (npc := 26) (N := mX4_addBytesOf) (b := 40) (mc := 0) (ms := 0) (A := [.int a]) (S := []) (L0 := [some (.ref 40), some (.int a), none]) dX7_feed_23 rfl km_X4_addBytesOf kk_X7_239 Rd.2.1 ⟨by decide, rfl⟩ rfl ⟨rfl, by decide⟩ rfl (Nat.le_of_ble_eq_true rfl) (Nat.zero_add _) (Nat.zero_add _) rfl ?_
    refine aw_bipush (npc := 2) (v := 24) (by decide) dX4_addBytesOf_0 rfl ?_
    refine aw_istore_n (npc := 3) (L' := [some (.ref 40), some (.int a), some (.int 24)]) dX4_addBytesOf_2 rfl (by decide) rfl rfl ?_
    refine aw_iload_n (npc := 4) rfl dX4_addBytesOf_3 rfl ?_
    refine aw_if_lt (npc := 7) (tgt := 48) dX4_addBytesOf_4 rfl (by decide) (fun hc => absurd hc (by decide)) (fun _ => ?_)
    refine aw_aload_n (npc := 8) rfl dX4_addBytesOf_7 rfl ?_
    refine aw_get (npc := 11) dX4_addBytesOf_8 rfl kf_X4_15 Rd.2.1 rfl ?_
    refine aw_bipush (npc := 13) (v := 96) (by decide) dX4_addBytesOf_11 rfl ?_
    refine aw_icmp_ge (npc := 16) (tgt := 48) dX4_addBytesOf_13 rfl (by decide) (fun hc => absurd hc (nI_ge (a := L) (b := 96) (by omega) (by omega))) (fun _ => ?_)
    refine aw_aload_n (npc := 17) rfl dX4_addBytesOf_16 rfl ?_
    refine aw_get (npc := 20) dX4_addBytesOf_17 rfl kf_X4_9 Rd.2.1 rfl ?_
    refine aw_aload_n (npc := 21) rfl dX4_addBytesOf_20 rfl ?_
    refine aw_get (npc := 24) dX4_addBytesOf_21 rfl kf_X4_15 Rd.2.1 rfl ?_
    refine aw_iload_n (npc := 25) rfl dX4_addBytesOf_24 rfl ?_
    refine aw_iload_n (npc := 26) rfl dX4_addBytesOf_25 rfl ?_
    refine aw_iushrV (npc := 27) (v := ush a 24) dX4_addBytesOf_26 rfl (rfl) ?_
    refine aw_sipush (npc := 30) (v := 255) (by decide) dX4_addBytesOf_27 rfl ?_
    refine aw_iandV (npc := 31) (v := byt a 24) dX4_addBytesOf_30 rfl (rfl) ?_
    refine aw_iast (npc := 32) (j := L) dX4_addBytesOf_31 rfl Rd.2.2.1 (am_ix_nI (by omega)) (by rw [tl_len]; omega) rfl ?_
    have Rd3 := rd_byte (j := L) (v := byt a 24) Rd
    have O4 := ob_out (a := 41) (c := .inl (0, (tl 96 tp).set L (byt a 24))) (by omega) O
    refine aw_aload_n (npc := 33) rfl dX4_addBytesOf_32 rfl ?_
    refine aw_dup (npc := 34) rfl dX4_addBytesOf_33 rfl ?_
    refine aw_get (npc := 37) dX4_addBytesOf_34 rfl kf_X4_15 Rd3.2.1 rfl ?_
    refine aw_iconst (npc := 38) (v := 1) (by decide) dX4_addBytesOf_37 rfl ?_
    refine aw_iaddV (npc := 39) (v := nI (L + 1)) dX4_addBytesOf_38 rfl (nI_add _ 1) ?_
    refine aw_put (npc := 42) dX4_addBytesOf_39 rfl kf_X4_15 Rd3.2.1 (Nat.le_of_ble_eq_true rfl) (am_ok_int _) rfl ?_
    have Rd5 := rd_len (v := nI (L + 1)) Rd3
    have O6 := ob_out (a := 40) (c := .inr (4, ([.ref 41, .int (nI L)] : List Value).set 1 (.int (nI (L + 1))))) (by omega) O4
    refine aw_iinc (npc := 45) (v := 16) (L' := [some (.ref 40), some (.int a), some (.int 16)]) dX4_addBytesOf_42 rfl rfl (by decide) (by decide) rfl rfl ?_
    refine aw_goto (npc := 3) dX4_addBytesOf_45 (by decide) ?_
    refine aw_iload_n (npc := 4) rfl dX4_addBytesOf_3 rfl ?_
    refine aw_if_lt (npc := 7) (tgt := 48) dX4_addBytesOf_4 rfl (by decide) (fun hc => absurd hc (by decide)) (fun _ => ?_)
    refine aw_aload_n (npc := 8) rfl dX4_addBytesOf_7 rfl ?_
    refine aw_get (npc := 11) dX4_addBytesOf_8 rfl kf_X4_15 Rd5.2.1 rfl ?_
    refine aw_bipush (npc := 13) (v := 96) (by decide) dX4_addBytesOf_11 rfl ?_
    refine aw_icmp_ge (npc := 16) (tgt := 48) dX4_addBytesOf_13 rfl (by decide) (fun hc => absurd hc (nI_ge (a := (L + 1)) (b := 96) (by omega) (by omega))) (fun _ => ?_)
    refine aw_aload_n (npc := 17) rfl dX4_addBytesOf_16 rfl ?_
    refine aw_get (npc := 20) dX4_addBytesOf_17 rfl kf_X4_9 Rd5.2.1 rfl ?_
    refine aw_aload_n (npc := 21) rfl dX4_addBytesOf_20 rfl ?_
    refine aw_get (npc := 24) dX4_addBytesOf_21 rfl kf_X4_15 Rd5.2.1 rfl ?_
    refine aw_iload_n (npc := 25) rfl dX4_addBytesOf_24 rfl ?_
    refine aw_iload_n (npc := 26) rfl dX4_addBytesOf_25 rfl ?_
    refine aw_iushrV (npc := 27) (v := ush a 16) dX4_addBytesOf_26 rfl (rfl) ?_
    refine aw_sipush (npc := 30) (v := 255) (by decide) dX4_addBytesOf_27 rfl ?_
    refine aw_iandV (npc := 31) (v := byt a 16) dX4_addBytesOf_30 rfl (rfl) ?_
    refine aw_iast (npc := 32) (j := (L + 1)) dX4_addBytesOf_31 rfl Rd5.2.2.1 (am_ix_nI (by omega)) (by rw [tl_len]; omega) rfl ?_
    have Rd8 := rd_byte (j := (L + 1)) (v := byt a 16) Rd5
    have O9 := ob_out (a := 41) (c := .inl (0, (tl 96 (upd tp L (byt a 24))).set (L + 1) (byt a 16))) (by omega) O6
    refine aw_aload_n (npc := 33) rfl dX4_addBytesOf_32 rfl ?_
    refine aw_dup (npc := 34) rfl dX4_addBytesOf_33 rfl ?_
    refine aw_get (npc := 37) dX4_addBytesOf_34 rfl kf_X4_15 Rd8.2.1 rfl ?_
    refine aw_iconst (npc := 38) (v := 1) (by decide) dX4_addBytesOf_37 rfl ?_
    refine aw_iaddV (npc := 39) (v := nI ((L + 1) + 1)) dX4_addBytesOf_38 rfl (nI_add _ 1) ?_
    refine aw_put (npc := 42) dX4_addBytesOf_39 rfl kf_X4_15 Rd8.2.1 (Nat.le_of_ble_eq_true rfl) (am_ok_int _) rfl ?_
    have Rd10 := rd_len (v := nI ((L + 1) + 1)) Rd8
    have O11 := ob_out (a := 40) (c := .inr (4, ([.ref 41, .int (nI (L + 1))] : List Value).set 1 (.int (nI ((L + 1) + 1))))) (by omega) O9
    refine aw_iinc (npc := 45) (v := 8) (L' := [some (.ref 40), some (.int a), some (.int 8)]) dX4_addBytesOf_42 rfl rfl (by decide) (by decide) rfl rfl ?_
    refine aw_goto (npc := 3) dX4_addBytesOf_45 (by decide) ?_
    refine aw_iload_n (npc := 4) rfl dX4_addBytesOf_3 rfl ?_
    refine aw_if_lt (npc := 7) (tgt := 48) dX4_addBytesOf_4 rfl (by decide) (fun hc => absurd hc (by decide)) (fun _ => ?_)
    refine aw_aload_n (npc := 8) rfl dX4_addBytesOf_7 rfl ?_
    refine aw_get (npc := 11) dX4_addBytesOf_8 rfl kf_X4_15 Rd10.2.1 rfl ?_
    refine aw_bipush (npc := 13) (v := 96) (by decide) dX4_addBytesOf_11 rfl ?_
    refine aw_icmp_ge (npc := 16) (tgt := 48) dX4_addBytesOf_13 rfl (by decide) (fun hc => absurd hc (nI_ge (a := ((L + 1) + 1)) (b := 96) (by omega) (by omega))) (fun _ => ?_)
    refine aw_aload_n (npc := 17) rfl dX4_addBytesOf_16 rfl ?_
    refine aw_get (npc := 20) dX4_addBytesOf_17 rfl kf_X4_9 Rd10.2.1 rfl ?_
    refine aw_aload_n (npc := 21) rfl dX4_addBytesOf_20 rfl ?_
    refine aw_get (npc := 24) dX4_addBytesOf_21 rfl kf_X4_15 Rd10.2.1 rfl ?_
    refine aw_iload_n (npc := 25) rfl dX4_addBytesOf_24 rfl ?_
    refine aw_iload_n (npc := 26) rfl dX4_addBytesOf_25 rfl ?_
    refine aw_iushrV (npc := 27) (v := ush a 8) dX4_addBytesOf_26 rfl (rfl) ?_
    refine aw_sipush (npc := 30) (v := 255) (by decide) dX4_addBytesOf_27 rfl ?_
    refine aw_iandV (npc := 31) (v := byt a 8) dX4_addBytesOf_30 rfl (rfl) ?_
    refine aw_iast (npc := 32) (j := ((L + 1) + 1)) dX4_addBytesOf_31 rfl Rd10.2.2.1 (am_ix_nI (by omega)) (by rw [tl_len]; omega) rfl ?_
    have Rd13 := rd_byte (j := ((L + 1) + 1)) (v := byt a 8) Rd10
    have O14 := ob_out (a := 41) (c := .inl (0, (tl 96 (upd (upd tp L (byt a 24)) (L + 1) (byt a 16))).set ((L + 1) + 1) (byt a 8))) (by omega) O11
    refine aw_aload_n (npc := 33) rfl dX4_addBytesOf_32 rfl ?_
    refine aw_dup (npc := 34) rfl dX4_addBytesOf_33 rfl ?_
    refine aw_get (npc := 37) dX4_addBytesOf_34 rfl kf_X4_15 Rd13.2.1 rfl ?_
    refine aw_iconst (npc := 38) (v := 1) (by decide) dX4_addBytesOf_37 rfl ?_
    refine aw_iaddV (npc := 39) (v := nI (((L + 1) + 1) + 1)) dX4_addBytesOf_38 rfl (nI_add _ 1) ?_
    refine aw_put (npc := 42) dX4_addBytesOf_39 rfl kf_X4_15 Rd13.2.1 (Nat.le_of_ble_eq_true rfl) (am_ok_int _) rfl ?_
    have Rd15 := rd_len (v := nI (((L + 1) + 1) + 1)) Rd13
    have O16 := ob_out (a := 40) (c := .inr (4, ([.ref 41, .int (nI ((L + 1) + 1))] : List Value).set 1 (.int (nI (((L + 1) + 1) + 1))))) (by omega) O14
    refine aw_iinc (npc := 45) (v := 0) (L' := [some (.ref 40), some (.int a), some (.int 0)]) dX4_addBytesOf_42 rfl rfl (by decide) (by decide) rfl rfl ?_
    refine aw_goto (npc := 3) dX4_addBytesOf_45 (by decide) ?_
    refine aw_iload_n (npc := 4) rfl dX4_addBytesOf_3 rfl ?_
    refine aw_if_lt (npc := 7) (tgt := 48) dX4_addBytesOf_4 rfl (by decide) (fun hc => absurd hc (by decide)) (fun _ => ?_)
    refine aw_aload_n (npc := 8) rfl dX4_addBytesOf_7 rfl ?_
    refine aw_get (npc := 11) dX4_addBytesOf_8 rfl kf_X4_15 Rd15.2.1 rfl ?_
    refine aw_bipush (npc := 13) (v := 96) (by decide) dX4_addBytesOf_11 rfl ?_
    refine aw_icmp_ge (npc := 16) (tgt := 48) dX4_addBytesOf_13 rfl (by decide) (fun hc => absurd hc (nI_ge (a := (((L + 1) + 1) + 1)) (b := 96) (by omega) (by omega))) (fun _ => ?_)
    refine aw_aload_n (npc := 17) rfl dX4_addBytesOf_16 rfl ?_
    refine aw_get (npc := 20) dX4_addBytesOf_17 rfl kf_X4_9 Rd15.2.1 rfl ?_
    refine aw_aload_n (npc := 21) rfl dX4_addBytesOf_20 rfl ?_
    refine aw_get (npc := 24) dX4_addBytesOf_21 rfl kf_X4_15 Rd15.2.1 rfl ?_
    refine aw_iload_n (npc := 25) rfl dX4_addBytesOf_24 rfl ?_
    refine aw_iload_n (npc := 26) rfl dX4_addBytesOf_25 rfl ?_
    refine aw_iushrV (npc := 27) (v := ush a 0) dX4_addBytesOf_26 rfl (rfl) ?_
    refine aw_sipush (npc := 30) (v := 255) (by decide) dX4_addBytesOf_27 rfl ?_
    refine aw_iandV (npc := 31) (v := byt a 0) dX4_addBytesOf_30 rfl (rfl) ?_
    refine aw_iast (npc := 32) (j := (((L + 1) + 1) + 1)) dX4_addBytesOf_31 rfl Rd15.2.2.1 (am_ix_nI (by omega)) (by rw [tl_len]; omega) rfl ?_
    have Rd18 := rd_byte (j := (((L + 1) + 1) + 1)) (v := byt a 0) Rd15
    have O19 := ob_out (a := 41) (c := .inl (0, (tl 96 (upd (upd (upd tp L (byt a 24)) (L + 1) (byt a 16)) ((L + 1) + 1) (byt a 8))).set (((L + 1) + 1) + 1) (byt a 0))) (by omega) O16
    refine aw_aload_n (npc := 33) rfl dX4_addBytesOf_32 rfl ?_
    refine aw_dup (npc := 34) rfl dX4_addBytesOf_33 rfl ?_
    refine aw_get (npc := 37) dX4_addBytesOf_34 rfl kf_X4_15 Rd18.2.1 rfl ?_
    refine aw_iconst (npc := 38) (v := 1) (by decide) dX4_addBytesOf_37 rfl ?_
    refine aw_iaddV (npc := 39) (v := nI ((((L + 1) + 1) + 1) + 1)) dX4_addBytesOf_38 rfl (nI_add _ 1) ?_
    refine aw_put (npc := 42) dX4_addBytesOf_39 rfl kf_X4_15 Rd18.2.1 (Nat.le_of_ble_eq_true rfl) (am_ok_int _) rfl ?_
    have Rd20 := rd_len (v := nI ((((L + 1) + 1) + 1) + 1)) Rd18
    have O21 := ob_out (a := 40) (c := .inr (4, ([.ref 41, .int (nI (((L + 1) + 1) + 1))] : List Value).set 1 (.int (nI ((((L + 1) + 1) + 1) + 1))))) (by omega) O19
    refine aw_iinc (npc := 45) (v := (-8)) (L' := [some (.ref 40), some (.int a), some (.int (-8))]) dX4_addBytesOf_42 rfl rfl (by decide) (by decide) rfl rfl ?_
    refine aw_goto (npc := 3) dX4_addBytesOf_45 (by decide) ?_
    refine aw_iload_n (npc := 4) rfl dX4_addBytesOf_3 rfl ?_
    refine aw_if_lt (npc := 7) (tgt := 48) dX4_addBytesOf_4 rfl (by decide) (fun _ => ?_) (fun hc => absurd (by decide) hc)
    refine aw_vret rfl dX4_addBytesOf_48 ?_
    refine aw_aload_n (npc := 27) rfl dX7_feed_26 rfl ?_
    refine aw_get (npc := 30) dX7_feed_27 rfl kf_X7_44 O21.1 rfl ?_
    refine aw_iload_n (npc := 31) rfl dX7_feed_30 rfl ?_
    refine aw_callV (npc := 34) (N := mX4_addBytesOf) (b := 40) (mc := 0) (ms := 0) (A := [.int b]) (S := []) (L0 := [some (.ref 40), some (.int b), none]) dX7_feed_31 rfl km_X4_addBytesOf kk_X7_239 Rd20.2.1 ⟨by decide, rfl⟩ rfl ⟨rfl, by decide⟩ rfl (Nat.le_of_ble_eq_true rfl) (Nat.zero_add _) (Nat.zero_add _) rfl ?_
    refine aw_bipush (npc := 2) (v := 24) (by decide) dX4_addBytesOf_0 rfl ?_
    refine aw_istore_n (npc := 3) (L' := [some (.ref 40), some (.int b), some (.int 24)]) dX4_addBytesOf_2 rfl (by decide) rfl rfl ?_
    refine aw_iload_n (npc := 4) rfl dX4_addBytesOf_3 rfl ?_
    refine aw_if_lt (npc := 7) (tgt := 48) dX4_addBytesOf_4 rfl (by decide) (fun hc => absurd hc (by decide)) (fun _ => ?_)
    refine aw_aload_n (npc := 8) rfl dX4_addBytesOf_7 rfl ?_
    refine aw_get (npc := 11) dX4_addBytesOf_8 rfl kf_X4_15 Rd20.2.1 rfl ?_
    refine aw_bipush (npc := 13) (v := 96) (by decide) dX4_addBytesOf_11 rfl ?_
    refine aw_icmp_ge (npc := 16) (tgt := 48) dX4_addBytesOf_13 rfl (by decide) (fun hc => absurd hc (nI_ge (a := ((((L + 1) + 1) + 1) + 1)) (b := 96) (by omega) (by omega))) (fun _ => ?_)
    refine aw_aload_n (npc := 17) rfl dX4_addBytesOf_16 rfl ?_
    refine aw_get (npc := 20) dX4_addBytesOf_17 rfl kf_X4_9 Rd20.2.1 rfl ?_
    refine aw_aload_n (npc := 21) rfl dX4_addBytesOf_20 rfl ?_
    refine aw_get (npc := 24) dX4_addBytesOf_21 rfl kf_X4_15 Rd20.2.1 rfl ?_
    refine aw_iload_n (npc := 25) rfl dX4_addBytesOf_24 rfl ?_
    refine aw_iload_n (npc := 26) rfl dX4_addBytesOf_25 rfl ?_
    refine aw_iushrV (npc := 27) (v := ush b 24) dX4_addBytesOf_26 rfl (rfl) ?_
    refine aw_sipush (npc := 30) (v := 255) (by decide) dX4_addBytesOf_27 rfl ?_
    refine aw_iandV (npc := 31) (v := byt b 24) dX4_addBytesOf_30 rfl (rfl) ?_
    refine aw_iast (npc := 32) (j := ((((L + 1) + 1) + 1) + 1)) dX4_addBytesOf_31 rfl Rd20.2.2.1 (am_ix_nI (by omega)) (by rw [tl_len]; omega) rfl ?_
    have Rd23 := rd_byte (j := ((((L + 1) + 1) + 1) + 1)) (v := byt b 24) Rd20
    have O24 := ob_out (a := 41) (c := .inl (0, (tl 96 (upd (upd (upd (upd tp L (byt a 24)) (L + 1) (byt a 16)) ((L + 1) + 1) (byt a 8)) (((L + 1) + 1) + 1) (byt a 0))).set ((((L + 1) + 1) + 1) + 1) (byt b 24))) (by omega) O21
    refine aw_aload_n (npc := 33) rfl dX4_addBytesOf_32 rfl ?_
    refine aw_dup (npc := 34) rfl dX4_addBytesOf_33 rfl ?_
    refine aw_get (npc := 37) dX4_addBytesOf_34 rfl kf_X4_15 Rd23.2.1 rfl ?_
    refine aw_iconst (npc := 38) (v := 1) (by decide) dX4_addBytesOf_37 rfl ?_
    refine aw_iaddV (npc := 39) (v := nI (((((L + 1) + 1) + 1) + 1) + 1)) dX4_addBytesOf_38 rfl (nI_add _ 1) ?_
    refine aw_put (npc := 42) dX4_addBytesOf_39 rfl kf_X4_15 Rd23.2.1 (Nat.le_of_ble_eq_true rfl) (am_ok_int _) rfl ?_
    have Rd25 := rd_len (v := nI (((((L + 1) + 1) + 1) + 1) + 1)) Rd23
    have O26 := ob_out (a := 40) (c := .inr (4, ([.ref 41, .int (nI ((((L + 1) + 1) + 1) + 1))] : List Value).set 1 (.int (nI (((((L + 1) + 1) + 1) + 1) + 1))))) (by omega) O24
    refine aw_iinc (npc := 45) (v := 16) (L' := [some (.ref 40), some (.int b), some (.int 16)]) dX4_addBytesOf_42 rfl rfl (by decide) (by decide) rfl rfl ?_
    refine aw_goto (npc := 3) dX4_addBytesOf_45 (by decide) ?_
    refine aw_iload_n (npc := 4) rfl dX4_addBytesOf_3 rfl ?_
    refine aw_if_lt (npc := 7) (tgt := 48) dX4_addBytesOf_4 rfl (by decide) (fun hc => absurd hc (by decide)) (fun _ => ?_)
    refine aw_aload_n (npc := 8) rfl dX4_addBytesOf_7 rfl ?_
    refine aw_get (npc := 11) dX4_addBytesOf_8 rfl kf_X4_15 Rd25.2.1 rfl ?_
    refine aw_bipush (npc := 13) (v := 96) (by decide) dX4_addBytesOf_11 rfl ?_
    refine aw_icmp_ge (npc := 16) (tgt := 48) dX4_addBytesOf_13 rfl (by decide) (fun hc => absurd hc (nI_ge (a := (((((L + 1) + 1) + 1) + 1) + 1)) (b := 96) (by omega) (by omega))) (fun _ => ?_)
    refine aw_aload_n (npc := 17) rfl dX4_addBytesOf_16 rfl ?_
    refine aw_get (npc := 20) dX4_addBytesOf_17 rfl kf_X4_9 Rd25.2.1 rfl ?_
    refine aw_aload_n (npc := 21) rfl dX4_addBytesOf_20 rfl ?_
    refine aw_get (npc := 24) dX4_addBytesOf_21 rfl kf_X4_15 Rd25.2.1 rfl ?_
    refine aw_iload_n (npc := 25) rfl dX4_addBytesOf_24 rfl ?_
    refine aw_iload_n (npc := 26) rfl dX4_addBytesOf_25 rfl ?_
    refine aw_iushrV (npc := 27) (v := ush b 16) dX4_addBytesOf_26 rfl (rfl) ?_
    refine aw_sipush (npc := 30) (v := 255) (by decide) dX4_addBytesOf_27 rfl ?_
    refine aw_iandV (npc := 31) (v := byt b 16) dX4_addBytesOf_30 rfl (rfl) ?_
    refine aw_iast (npc := 32) (j := (((((L + 1) + 1) + 1) + 1) + 1)) dX4_addBytesOf_31 rfl Rd25.2.2.1 (am_ix_nI (by omega)) (by rw [tl_len]; omega) rfl ?_
    have Rd28 := rd_byte (j := (((((L + 1) + 1) + 1) + 1) + 1)) (v := byt b 16) Rd25
    have O29 := ob_out (a := 41) (c := .inl (0, (tl 96 (upd (upd (upd (upd (upd tp L (byt a 24)) (L + 1) (byt a 16)) ((L + 1) + 1) (byt a 8)) (((L + 1) + 1) + 1) (byt a 0)) ((((L + 1) + 1) + 1) + 1) (byt b 24))).set (((((L + 1) + 1) + 1) + 1) + 1) (byt b 16))) (by omega) O26
    refine aw_aload_n (npc := 33) rfl dX4_addBytesOf_32 rfl ?_
    refine aw_dup (npc := 34) rfl dX4_addBytesOf_33 rfl ?_
    refine aw_get (npc := 37) dX4_addBytesOf_34 rfl kf_X4_15 Rd28.2.1 rfl ?_
    refine aw_iconst (npc := 38) (v := 1) (by decide) dX4_addBytesOf_37 rfl ?_
    refine aw_iaddV (npc := 39) (v := nI ((((((L + 1) + 1) + 1) + 1) + 1) + 1)) dX4_addBytesOf_38 rfl (nI_add _ 1) ?_
    refine aw_put (npc := 42) dX4_addBytesOf_39 rfl kf_X4_15 Rd28.2.1 (Nat.le_of_ble_eq_true rfl) (am_ok_int _) rfl ?_
    have Rd30 := rd_len (v := nI ((((((L + 1) + 1) + 1) + 1) + 1) + 1)) Rd28
    have O31 := ob_out (a := 40) (c := .inr (4, ([.ref 41, .int (nI (((((L + 1) + 1) + 1) + 1) + 1))] : List Value).set 1 (.int (nI ((((((L + 1) + 1) + 1) + 1) + 1) + 1))))) (by omega) O29
    refine aw_iinc (npc := 45) (v := 8) (L' := [some (.ref 40), some (.int b), some (.int 8)]) dX4_addBytesOf_42 rfl rfl (by decide) (by decide) rfl rfl ?_
    refine aw_goto (npc := 3) dX4_addBytesOf_45 (by decide) ?_
    refine aw_iload_n (npc := 4) rfl dX4_addBytesOf_3 rfl ?_
    refine aw_if_lt (npc := 7) (tgt := 48) dX4_addBytesOf_4 rfl (by decide) (fun hc => absurd hc (by decide)) (fun _ => ?_)
    refine aw_aload_n (npc := 8) rfl dX4_addBytesOf_7 rfl ?_
    refine aw_get (npc := 11) dX4_addBytesOf_8 rfl kf_X4_15 Rd30.2.1 rfl ?_
    refine aw_bipush (npc := 13) (v := 96) (by decide) dX4_addBytesOf_11 rfl ?_
    refine aw_icmp_ge (npc := 16) (tgt := 48) dX4_addBytesOf_13 rfl (by decide) (fun hc => absurd hc (nI_ge (a := ((((((L + 1) + 1) + 1) + 1) + 1) + 1)) (b := 96) (by omega) (by omega))) (fun _ => ?_)
    refine aw_aload_n (npc := 17) rfl dX4_addBytesOf_16 rfl ?_
    refine aw_get (npc := 20) dX4_addBytesOf_17 rfl kf_X4_9 Rd30.2.1 rfl ?_
    refine aw_aload_n (npc := 21) rfl dX4_addBytesOf_20 rfl ?_
    refine aw_get (npc := 24) dX4_addBytesOf_21 rfl kf_X4_15 Rd30.2.1 rfl ?_
    refine aw_iload_n (npc := 25) rfl dX4_addBytesOf_24 rfl ?_
    refine aw_iload_n (npc := 26) rfl dX4_addBytesOf_25 rfl ?_
    refine aw_iushrV (npc := 27) (v := ush b 8) dX4_addBytesOf_26 rfl (rfl) ?_
    refine aw_sipush (npc := 30) (v := 255) (by decide) dX4_addBytesOf_27 rfl ?_
    refine aw_iandV (npc := 31) (v := byt b 8) dX4_addBytesOf_30 rfl (rfl) ?_
    refine aw_iast (npc := 32) (j := ((((((L + 1) + 1) + 1) + 1) + 1) + 1)) dX4_addBytesOf_31 rfl Rd30.2.2.1 (am_ix_nI (by omega)) (by rw [tl_len]; omega) rfl ?_
    have Rd33 := rd_byte (j := ((((((L + 1) + 1) + 1) + 1) + 1) + 1)) (v := byt b 8) Rd30
    have O34 := ob_out (a := 41) (c := .inl (0, (tl 96 (upd (upd (upd (upd (upd (upd tp L (byt a 24)) (L + 1) (byt a 16)) ((L + 1) + 1) (byt a 8)) (((L + 1) + 1) + 1) (byt a 0)) ((((L + 1) + 1) + 1) + 1) (byt b 24)) (((((L + 1) + 1) + 1) + 1) + 1) (byt b 16))).set ((((((L + 1) + 1) + 1) + 1) + 1) + 1) (byt b 8))) (by omega) O31
    refine aw_aload_n (npc := 33) rfl dX4_addBytesOf_32 rfl ?_
    refine aw_dup (npc := 34) rfl dX4_addBytesOf_33 rfl ?_
    refine aw_get (npc := 37) dX4_addBytesOf_34 rfl kf_X4_15 Rd33.2.1 rfl ?_
    refine aw_iconst (npc := 38) (v := 1) (by decide) dX4_addBytesOf_37 rfl ?_
    refine aw_iaddV (npc := 39) (v := nI (((((((L + 1) + 1) + 1) + 1) + 1) + 1) + 1)) dX4_addBytesOf_38 rfl (nI_add _ 1) ?_
    refine aw_put (npc := 42) dX4_addBytesOf_39 rfl kf_X4_15 Rd33.2.1 (Nat.le_of_ble_eq_true rfl) (am_ok_int _) rfl ?_
    have Rd35 := rd_len (v := nI (((((((L + 1) + 1) + 1) + 1) + 1) + 1) + 1)) Rd33
    have O36 := ob_out (a := 40) (c := .inr (4, ([.ref 41, .int (nI ((((((L + 1) + 1) + 1) + 1) + 1) + 1))] : List Value).set 1 (.int (nI (((((((L + 1) + 1) + 1) + 1) + 1) + 1) + 1))))) (by omega) O34
    refine aw_iinc (npc := 45) (v := 0) (L' := [some (.ref 40), some (.int b), some (.int 0)]) dX4_addBytesOf_42 rfl rfl (by decide) (by decide) rfl rfl ?_
    refine aw_goto (npc := 3) dX4_addBytesOf_45 (by decide) ?_
    refine aw_iload_n (npc := 4) rfl dX4_addBytesOf_3 rfl ?_
    refine aw_if_lt (npc := 7) (tgt := 48) dX4_addBytesOf_4 rfl (by decide) (fun hc => absurd hc (by decide)) (fun _ => ?_)
    refine aw_aload_n (npc := 8) rfl dX4_addBytesOf_7 rfl ?_
    refine aw_get (npc := 11) dX4_addBytesOf_8 rfl kf_X4_15 Rd35.2.1 rfl ?_
    refine aw_bipush (npc := 13) (v := 96) (by decide) dX4_addBytesOf_11 rfl ?_
    refine aw_icmp_ge (npc := 16) (tgt := 48) dX4_addBytesOf_13 rfl (by decide) (fun hc => absurd hc (nI_ge (a := (((((((L + 1) + 1) + 1) + 1) + 1) + 1) + 1)) (b := 96) (by omega) (by omega))) (fun _ => ?_)
    refine aw_aload_n (npc := 17) rfl dX4_addBytesOf_16 rfl ?_
    refine aw_get (npc := 20) dX4_addBytesOf_17 rfl kf_X4_9 Rd35.2.1 rfl ?_
    refine aw_aload_n (npc := 21) rfl dX4_addBytesOf_20 rfl ?_
    refine aw_get (npc := 24) dX4_addBytesOf_21 rfl kf_X4_15 Rd35.2.1 rfl ?_
    refine aw_iload_n (npc := 25) rfl dX4_addBytesOf_24 rfl ?_
    refine aw_iload_n (npc := 26) rfl dX4_addBytesOf_25 rfl ?_
    refine aw_iushrV (npc := 27) (v := ush b 0) dX4_addBytesOf_26 rfl (rfl) ?_
    refine aw_sipush (npc := 30) (v := 255) (by decide) dX4_addBytesOf_27 rfl ?_
    refine aw_iandV (npc := 31) (v := byt b 0) dX4_addBytesOf_30 rfl (rfl) ?_
    refine aw_iast (npc := 32) (j := (((((((L + 1) + 1) + 1) + 1) + 1) + 1) + 1)) dX4_addBytesOf_31 rfl Rd35.2.2.1 (am_ix_nI (by omega)) (by rw [tl_len]; omega) rfl ?_
    have Rd38 := rd_byte (j := (((((((L + 1) + 1) + 1) + 1) + 1) + 1) + 1)) (v := byt b 0) Rd35
    have O39 := ob_out (a := 41) (c := .inl (0, (tl 96 (upd (upd (upd (upd (upd (upd (upd tp L (byt a 24)) (L + 1) (byt a 16)) ((L + 1) + 1) (byt a 8)) (((L + 1) + 1) + 1) (byt a 0)) ((((L + 1) + 1) + 1) + 1) (byt b 24)) (((((L + 1) + 1) + 1) + 1) + 1) (byt b 16)) ((((((L + 1) + 1) + 1) + 1) + 1) + 1) (byt b 8))).set (((((((L + 1) + 1) + 1) + 1) + 1) + 1) + 1) (byt b 0))) (by omega) O36
    refine aw_aload_n (npc := 33) rfl dX4_addBytesOf_32 rfl ?_
    refine aw_dup (npc := 34) rfl dX4_addBytesOf_33 rfl ?_
    refine aw_get (npc := 37) dX4_addBytesOf_34 rfl kf_X4_15 Rd38.2.1 rfl ?_
    refine aw_iconst (npc := 38) (v := 1) (by decide) dX4_addBytesOf_37 rfl ?_
    refine aw_iaddV (npc := 39) (v := nI ((((((((L + 1) + 1) + 1) + 1) + 1) + 1) + 1) + 1)) dX4_addBytesOf_38 rfl (nI_add _ 1) ?_
    refine aw_put (npc := 42) dX4_addBytesOf_39 rfl kf_X4_15 Rd38.2.1 (Nat.le_of_ble_eq_true rfl) (am_ok_int _) rfl ?_
    have Rd40 := rd_len (v := nI ((((((((L + 1) + 1) + 1) + 1) + 1) + 1) + 1) + 1)) Rd38
    have O41 := ob_out (a := 40) (c := .inr (4, ([.ref 41, .int (nI (((((((L + 1) + 1) + 1) + 1) + 1) + 1) + 1))] : List Value).set 1 (.int (nI ((((((((L + 1) + 1) + 1) + 1) + 1) + 1) + 1) + 1))))) (by omega) O39
    refine aw_iinc (npc := 45) (v := (-8)) (L' := [some (.ref 40), some (.int b), some (.int (-8))]) dX4_addBytesOf_42 rfl rfl (by decide) (by decide) rfl rfl ?_
    refine aw_goto (npc := 3) dX4_addBytesOf_45 (by decide) ?_
    refine aw_iload_n (npc := 4) rfl dX4_addBytesOf_3 rfl ?_
    refine aw_if_lt (npc := 7) (tgt := 48) dX4_addBytesOf_4 rfl (by decide) (fun _ => ?_) (fun hc => absurd (by decide) hc)
    refine aw_vret rfl dX4_addBytesOf_48 ?_
    refine aw_aload_n (npc := 35) rfl dX7_feed_34 rfl ?_
    refine aw_get (npc := 38) dX7_feed_35 rfl kf_X7_44 O41.1 rfl ?_
    refine aw_iload_n (npc := 39) rfl dX7_feed_38 rfl ?_
    refine aw_callV (npc := 42) (N := mX4_addBytesOf) (b := 40) (mc := 0) (ms := 0) (A := [.int c]) (S := []) (L0 := [some (.ref 40), some (.int c), none]) dX7_feed_39 rfl km_X4_addBytesOf kk_X7_239 Rd40.2.1 ⟨by decide, rfl⟩ rfl ⟨rfl, by decide⟩ rfl (Nat.le_of_ble_eq_true rfl) (Nat.zero_add _) (Nat.zero_add _) rfl ?_
    refine aw_bipush (npc := 2) (v := 24) (by decide) dX4_addBytesOf_0 rfl ?_
    refine aw_istore_n (npc := 3) (L' := [some (.ref 40), some (.int c), some (.int 24)]) dX4_addBytesOf_2 rfl (by decide) rfl rfl ?_
    refine aw_iload_n (npc := 4) rfl dX4_addBytesOf_3 rfl ?_
    refine aw_if_lt (npc := 7) (tgt := 48) dX4_addBytesOf_4 rfl (by decide) (fun hc => absurd hc (by decide)) (fun _ => ?_)
    refine aw_aload_n (npc := 8) rfl dX4_addBytesOf_7 rfl ?_
    refine aw_get (npc := 11) dX4_addBytesOf_8 rfl kf_X4_15 Rd40.2.1 rfl ?_
    refine aw_bipush (npc := 13) (v := 96) (by decide) dX4_addBytesOf_11 rfl ?_
    refine aw_icmp_ge (npc := 16) (tgt := 48) dX4_addBytesOf_13 rfl (by decide) (fun hc => absurd hc (nI_ge (a := ((((((((L + 1) + 1) + 1) + 1) + 1) + 1) + 1) + 1)) (b := 96) (by omega) (by omega))) (fun _ => ?_)
    refine aw_aload_n (npc := 17) rfl dX4_addBytesOf_16 rfl ?_
    refine aw_get (npc := 20) dX4_addBytesOf_17 rfl kf_X4_9 Rd40.2.1 rfl ?_
    refine aw_aload_n (npc := 21) rfl dX4_addBytesOf_20 rfl ?_
    refine aw_get (npc := 24) dX4_addBytesOf_21 rfl kf_X4_15 Rd40.2.1 rfl ?_
    refine aw_iload_n (npc := 25) rfl dX4_addBytesOf_24 rfl ?_
    refine aw_iload_n (npc := 26) rfl dX4_addBytesOf_25 rfl ?_
    refine aw_iushrV (npc := 27) (v := ush c 24) dX4_addBytesOf_26 rfl (rfl) ?_
    refine aw_sipush (npc := 30) (v := 255) (by decide) dX4_addBytesOf_27 rfl ?_
    refine aw_iandV (npc := 31) (v := byt c 24) dX4_addBytesOf_30 rfl (rfl) ?_
    refine aw_iast (npc := 32) (j := ((((((((L + 1) + 1) + 1) + 1) + 1) + 1) + 1) + 1)) dX4_addBytesOf_31 rfl Rd40.2.2.1 (am_ix_nI (by omega)) (by rw [tl_len]; omega) rfl ?_
    have Rd43 := rd_byte (j := ((((((((L + 1) + 1) + 1) + 1) + 1) + 1) + 1) + 1)) (v := byt c 24) Rd40
    have O44 := ob_out (a := 41) (c := .inl (0, (tl 96 (upd (upd (upd (upd (upd (upd (upd (upd tp L (byt a 24)) (L + 1) (byt a 16)) ((L + 1) + 1) (byt a 8)) (((L + 1) + 1) + 1) (byt a 0)) ((((L + 1) + 1) + 1) + 1) (byt b 24)) (((((L + 1) + 1) + 1) + 1) + 1) (byt b 16)) ((((((L + 1) + 1) + 1) + 1) + 1) + 1) (byt b 8)) (((((((L + 1) + 1) + 1) + 1) + 1) + 1) + 1) (byt b 0))).set ((((((((L + 1) + 1) + 1) + 1) + 1) + 1) + 1) + 1) (byt c 24))) (by omega) O41
    refine aw_aload_n (npc := 33) rfl dX4_addBytesOf_32 rfl ?_
    refine aw_dup (npc := 34) rfl dX4_addBytesOf_33 rfl ?_
    refine aw_get (npc := 37) dX4_addBytesOf_34 rfl kf_X4_15 Rd43.2.1 rfl ?_
    refine aw_iconst (npc := 38) (v := 1) (by decide) dX4_addBytesOf_37 rfl ?_
    refine aw_iaddV (npc := 39) (v := nI (((((((((L + 1) + 1) + 1) + 1) + 1) + 1) + 1) + 1) + 1)) dX4_addBytesOf_38 rfl (nI_add _ 1) ?_
    refine aw_put (npc := 42) dX4_addBytesOf_39 rfl kf_X4_15 Rd43.2.1 (Nat.le_of_ble_eq_true rfl) (am_ok_int _) rfl ?_
    have Rd45 := rd_len (v := nI (((((((((L + 1) + 1) + 1) + 1) + 1) + 1) + 1) + 1) + 1)) Rd43
    have O46 := ob_out (a := 40) (c := .inr (4, ([.ref 41, .int (nI ((((((((L + 1) + 1) + 1) + 1) + 1) + 1) + 1) + 1))] : List Value).set 1 (.int (nI (((((((((L + 1) + 1) + 1) + 1) + 1) + 1) + 1) + 1) + 1))))) (by omega) O44
    refine aw_iinc (npc := 45) (v := 16) (L' := [some (.ref 40), some (.int c), some (.int 16)]) dX4_addBytesOf_42 rfl rfl (by decide) (by decide) rfl rfl ?_
    refine aw_goto (npc := 3) dX4_addBytesOf_45 (by decide) ?_
    refine aw_iload_n (npc := 4) rfl dX4_addBytesOf_3 rfl ?_
    refine aw_if_lt (npc := 7) (tgt := 48) dX4_addBytesOf_4 rfl (by decide) (fun hc => absurd hc (by decide)) (fun _ => ?_)
    refine aw_aload_n (npc := 8) rfl dX4_addBytesOf_7 rfl ?_
    refine aw_get (npc := 11) dX4_addBytesOf_8 rfl kf_X4_15 Rd45.2.1 rfl ?_
    refine aw_bipush (npc := 13) (v := 96) (by decide) dX4_addBytesOf_11 rfl ?_
    refine aw_icmp_ge (npc := 16) (tgt := 48) dX4_addBytesOf_13 rfl (by decide) (fun hc => absurd hc (nI_ge (a := (((((((((L + 1) + 1) + 1) + 1) + 1) + 1) + 1) + 1) + 1)) (b := 96) (by omega) (by omega))) (fun _ => ?_)
    refine aw_aload_n (npc := 17) rfl dX4_addBytesOf_16 rfl ?_
    refine aw_get (npc := 20) dX4_addBytesOf_17 rfl kf_X4_9 Rd45.2.1 rfl ?_
    refine aw_aload_n (npc := 21) rfl dX4_addBytesOf_20 rfl ?_
    refine aw_get (npc := 24) dX4_addBytesOf_21 rfl kf_X4_15 Rd45.2.1 rfl ?_
    refine aw_iload_n (npc := 25) rfl dX4_addBytesOf_24 rfl ?_
    refine aw_iload_n (npc := 26) rfl dX4_addBytesOf_25 rfl ?_
    refine aw_iushrV (npc := 27) (v := ush c 16) dX4_addBytesOf_26 rfl (rfl) ?_
    refine aw_sipush (npc := 30) (v := 255) (by decide) dX4_addBytesOf_27 rfl ?_
    refine aw_iandV (npc := 31) (v := byt c 16) dX4_addBytesOf_30 rfl (rfl) ?_
    refine aw_iast (npc := 32) (j := (((((((((L + 1) + 1) + 1) + 1) + 1) + 1) + 1) + 1) + 1)) dX4_addBytesOf_31 rfl Rd45.2.2.1 (am_ix_nI (by omega)) (by rw [tl_len]; omega) rfl ?_
    have Rd48 := rd_byte (j := (((((((((L + 1) + 1) + 1) + 1) + 1) + 1) + 1) + 1) + 1)) (v := byt c 16) Rd45
    have O49 := ob_out (a := 41) (c := .inl (0, (tl 96 (upd (upd (upd (upd (upd (upd (upd (upd (upd tp L (byt a 24)) (L + 1) (byt a 16)) ((L + 1) + 1) (byt a 8)) (((L + 1) + 1) + 1) (byt a 0)) ((((L + 1) + 1) + 1) + 1) (byt b 24)) (((((L + 1) + 1) + 1) + 1) + 1) (byt b 16)) ((((((L + 1) + 1) + 1) + 1) + 1) + 1) (byt b 8)) (((((((L + 1) + 1) + 1) + 1) + 1) + 1) + 1) (byt b 0)) ((((((((L + 1) + 1) + 1) + 1) + 1) + 1) + 1) + 1) (byt c 24))).set (((((((((L + 1) + 1) + 1) + 1) + 1) + 1) + 1) + 1) + 1) (byt c 16))) (by omega) O46
    refine aw_aload_n (npc := 33) rfl dX4_addBytesOf_32 rfl ?_
    refine aw_dup (npc := 34) rfl dX4_addBytesOf_33 rfl ?_
    refine aw_get (npc := 37) dX4_addBytesOf_34 rfl kf_X4_15 Rd48.2.1 rfl ?_
    refine aw_iconst (npc := 38) (v := 1) (by decide) dX4_addBytesOf_37 rfl ?_
    refine aw_iaddV (npc := 39) (v := nI ((((((((((L + 1) + 1) + 1) + 1) + 1) + 1) + 1) + 1) + 1) + 1)) dX4_addBytesOf_38 rfl (nI_add _ 1) ?_
    refine aw_put (npc := 42) dX4_addBytesOf_39 rfl kf_X4_15 Rd48.2.1 (Nat.le_of_ble_eq_true rfl) (am_ok_int _) rfl ?_
    have Rd50 := rd_len (v := nI ((((((((((L + 1) + 1) + 1) + 1) + 1) + 1) + 1) + 1) + 1) + 1)) Rd48
    have O51 := ob_out (a := 40) (c := .inr (4, ([.ref 41, .int (nI (((((((((L + 1) + 1) + 1) + 1) + 1) + 1) + 1) + 1) + 1))] : List Value).set 1 (.int (nI ((((((((((L + 1) + 1) + 1) + 1) + 1) + 1) + 1) + 1) + 1) + 1))))) (by omega) O49
    refine aw_iinc (npc := 45) (v := 8) (L' := [some (.ref 40), some (.int c), some (.int 8)]) dX4_addBytesOf_42 rfl rfl (by decide) (by decide) rfl rfl ?_
    refine aw_goto (npc := 3) dX4_addBytesOf_45 (by decide) ?_
    refine aw_iload_n (npc := 4) rfl dX4_addBytesOf_3 rfl ?_
    refine aw_if_lt (npc := 7) (tgt := 48) dX4_addBytesOf_4 rfl (by decide) (fun hc => absurd hc (by decide)) (fun _ => ?_)
    refine aw_aload_n (npc := 8) rfl dX4_addBytesOf_7 rfl ?_
    refine aw_get (npc := 11) dX4_addBytesOf_8 rfl kf_X4_15 Rd50.2.1 rfl ?_
    refine aw_bipush (npc := 13) (v := 96) (by decide) dX4_addBytesOf_11 rfl ?_
    refine aw_icmp_ge (npc := 16) (tgt := 48) dX4_addBytesOf_13 rfl (by decide) (fun hc => absurd hc (nI_ge (a := ((((((((((L + 1) + 1) + 1) + 1) + 1) + 1) + 1) + 1) + 1) + 1)) (b := 96) (by omega) (by omega))) (fun _ => ?_)
    refine aw_aload_n (npc := 17) rfl dX4_addBytesOf_16 rfl ?_
    refine aw_get (npc := 20) dX4_addBytesOf_17 rfl kf_X4_9 Rd50.2.1 rfl ?_
    refine aw_aload_n (npc := 21) rfl dX4_addBytesOf_20 rfl ?_
    refine aw_get (npc := 24) dX4_addBytesOf_21 rfl kf_X4_15 Rd50.2.1 rfl ?_
    refine aw_iload_n (npc := 25) rfl dX4_addBytesOf_24 rfl ?_
    refine aw_iload_n (npc := 26) rfl dX4_addBytesOf_25 rfl ?_
    refine aw_iushrV (npc := 27) (v := ush c 8) dX4_addBytesOf_26 rfl (rfl) ?_
    refine aw_sipush (npc := 30) (v := 255) (by decide) dX4_addBytesOf_27 rfl ?_
    refine aw_iandV (npc := 31) (v := byt c 8) dX4_addBytesOf_30 rfl (rfl) ?_
    refine aw_iast (npc := 32) (j := ((((((((((L + 1) + 1) + 1) + 1) + 1) + 1) + 1) + 1) + 1) + 1)) dX4_addBytesOf_31 rfl Rd50.2.2.1 (am_ix_nI (by omega)) (by rw [tl_len]; omega) rfl ?_
    have Rd53 := rd_byte (j := ((((((((((L + 1) + 1) + 1) + 1) + 1) + 1) + 1) + 1) + 1) + 1)) (v := byt c 8) Rd50
    have O54 := ob_out (a := 41) (c := .inl (0, (tl 96 (upd (upd (upd (upd (upd (upd (upd (upd (upd (upd tp L (byt a 24)) (L + 1) (byt a 16)) ((L + 1) + 1) (byt a 8)) (((L + 1) + 1) + 1) (byt a 0)) ((((L + 1) + 1) + 1) + 1) (byt b 24)) (((((L + 1) + 1) + 1) + 1) + 1) (byt b 16)) ((((((L + 1) + 1) + 1) + 1) + 1) + 1) (byt b 8)) (((((((L + 1) + 1) + 1) + 1) + 1) + 1) + 1) (byt b 0)) ((((((((L + 1) + 1) + 1) + 1) + 1) + 1) + 1) + 1) (byt c 24)) (((((((((L + 1) + 1) + 1) + 1) + 1) + 1) + 1) + 1) + 1) (byt c 16))).set ((((((((((L + 1) + 1) + 1) + 1) + 1) + 1) + 1) + 1) + 1) + 1) (byt c 8))) (by omega) O51
    refine aw_aload_n (npc := 33) rfl dX4_addBytesOf_32 rfl ?_
    refine aw_dup (npc := 34) rfl dX4_addBytesOf_33 rfl ?_
    refine aw_get (npc := 37) dX4_addBytesOf_34 rfl kf_X4_15 Rd53.2.1 rfl ?_
    refine aw_iconst (npc := 38) (v := 1) (by decide) dX4_addBytesOf_37 rfl ?_
    refine aw_iaddV (npc := 39) (v := nI (((((((((((L + 1) + 1) + 1) + 1) + 1) + 1) + 1) + 1) + 1) + 1) + 1)) dX4_addBytesOf_38 rfl (nI_add _ 1) ?_
    refine aw_put (npc := 42) dX4_addBytesOf_39 rfl kf_X4_15 Rd53.2.1 (Nat.le_of_ble_eq_true rfl) (am_ok_int _) rfl ?_
    have Rd55 := rd_len (v := nI (((((((((((L + 1) + 1) + 1) + 1) + 1) + 1) + 1) + 1) + 1) + 1) + 1)) Rd53
    have O56 := ob_out (a := 40) (c := .inr (4, ([.ref 41, .int (nI ((((((((((L + 1) + 1) + 1) + 1) + 1) + 1) + 1) + 1) + 1) + 1))] : List Value).set 1 (.int (nI (((((((((((L + 1) + 1) + 1) + 1) + 1) + 1) + 1) + 1) + 1) + 1) + 1))))) (by omega) O54
    refine aw_iinc (npc := 45) (v := 0) (L' := [some (.ref 40), some (.int c), some (.int 0)]) dX4_addBytesOf_42 rfl rfl (by decide) (by decide) rfl rfl ?_
    refine aw_goto (npc := 3) dX4_addBytesOf_45 (by decide) ?_
    refine aw_iload_n (npc := 4) rfl dX4_addBytesOf_3 rfl ?_
    refine aw_if_lt (npc := 7) (tgt := 48) dX4_addBytesOf_4 rfl (by decide) (fun hc => absurd hc (by decide)) (fun _ => ?_)
    refine aw_aload_n (npc := 8) rfl dX4_addBytesOf_7 rfl ?_
    refine aw_get (npc := 11) dX4_addBytesOf_8 rfl kf_X4_15 Rd55.2.1 rfl ?_
    refine aw_bipush (npc := 13) (v := 96) (by decide) dX4_addBytesOf_11 rfl ?_
    refine aw_icmp_ge (npc := 16) (tgt := 48) dX4_addBytesOf_13 rfl (by decide) (fun hc => absurd hc (nI_ge (a := (((((((((((L + 1) + 1) + 1) + 1) + 1) + 1) + 1) + 1) + 1) + 1) + 1)) (b := 96) (by omega) (by omega))) (fun _ => ?_)
    refine aw_aload_n (npc := 17) rfl dX4_addBytesOf_16 rfl ?_
    refine aw_get (npc := 20) dX4_addBytesOf_17 rfl kf_X4_9 Rd55.2.1 rfl ?_
    refine aw_aload_n (npc := 21) rfl dX4_addBytesOf_20 rfl ?_
    refine aw_get (npc := 24) dX4_addBytesOf_21 rfl kf_X4_15 Rd55.2.1 rfl ?_
    refine aw_iload_n (npc := 25) rfl dX4_addBytesOf_24 rfl ?_
    refine aw_iload_n (npc := 26) rfl dX4_addBytesOf_25 rfl ?_
    refine aw_iushrV (npc := 27) (v := ush c 0) dX4_addBytesOf_26 rfl (rfl) ?_
    refine aw_sipush (npc := 30) (v := 255) (by decide) dX4_addBytesOf_27 rfl ?_
    refine aw_iandV (npc := 31) (v := byt c 0) dX4_addBytesOf_30 rfl (rfl) ?_
    refine aw_iast (npc := 32) (j := (((((((((((L + 1) + 1) + 1) + 1) + 1) + 1) + 1) + 1) + 1) + 1) + 1)) dX4_addBytesOf_31 rfl Rd55.2.2.1 (am_ix_nI (by omega)) (by rw [tl_len]; omega) rfl ?_
    have Rd58 := rd_byte (j := (((((((((((L + 1) + 1) + 1) + 1) + 1) + 1) + 1) + 1) + 1) + 1) + 1)) (v := byt c 0) Rd55
    have O59 := ob_out (a := 41) (c := .inl (0, (tl 96 (upd (upd (upd (upd (upd (upd (upd (upd (upd (upd (upd tp L (byt a 24)) (L + 1) (byt a 16)) ((L + 1) + 1) (byt a 8)) (((L + 1) + 1) + 1) (byt a 0)) ((((L + 1) + 1) + 1) + 1) (byt b 24)) (((((L + 1) + 1) + 1) + 1) + 1) (byt b 16)) ((((((L + 1) + 1) + 1) + 1) + 1) + 1) (byt b 8)) (((((((L + 1) + 1) + 1) + 1) + 1) + 1) + 1) (byt b 0)) ((((((((L + 1) + 1) + 1) + 1) + 1) + 1) + 1) + 1) (byt c 24)) (((((((((L + 1) + 1) + 1) + 1) + 1) + 1) + 1) + 1) + 1) (byt c 16)) ((((((((((L + 1) + 1) + 1) + 1) + 1) + 1) + 1) + 1) + 1) + 1) (byt c 8))).set (((((((((((L + 1) + 1) + 1) + 1) + 1) + 1) + 1) + 1) + 1) + 1) + 1) (byt c 0))) (by omega) O56
    refine aw_aload_n (npc := 33) rfl dX4_addBytesOf_32 rfl ?_
    refine aw_dup (npc := 34) rfl dX4_addBytesOf_33 rfl ?_
    refine aw_get (npc := 37) dX4_addBytesOf_34 rfl kf_X4_15 Rd58.2.1 rfl ?_
    refine aw_iconst (npc := 38) (v := 1) (by decide) dX4_addBytesOf_37 rfl ?_
    refine aw_iaddV (npc := 39) (v := nI ((((((((((((L + 1) + 1) + 1) + 1) + 1) + 1) + 1) + 1) + 1) + 1) + 1) + 1)) dX4_addBytesOf_38 rfl (nI_add _ 1) ?_
    refine aw_put (npc := 42) dX4_addBytesOf_39 rfl kf_X4_15 Rd58.2.1 (Nat.le_of_ble_eq_true rfl) (am_ok_int _) rfl ?_
    have Rd60 := rd_len (v := nI ((((((((((((L + 1) + 1) + 1) + 1) + 1) + 1) + 1) + 1) + 1) + 1) + 1) + 1)) Rd58
    have O61 := ob_out (a := 40) (c := .inr (4, ([.ref 41, .int (nI (((((((((((L + 1) + 1) + 1) + 1) + 1) + 1) + 1) + 1) + 1) + 1) + 1))] : List Value).set 1 (.int (nI ((((((((((((L + 1) + 1) + 1) + 1) + 1) + 1) + 1) + 1) + 1) + 1) + 1) + 1))))) (by omega) O59
    refine aw_iinc (npc := 45) (v := (-8)) (L' := [some (.ref 40), some (.int c), some (.int (-8))]) dX4_addBytesOf_42 rfl rfl (by decide) (by decide) rfl rfl ?_
    refine aw_goto (npc := 3) dX4_addBytesOf_45 (by decide) ?_
    refine aw_iload_n (npc := 4) rfl dX4_addBytesOf_3 rfl ?_
    refine aw_if_lt (npc := 7) (tgt := 48) dX4_addBytesOf_4 rfl (by decide) (fun _ => ?_) (fun hc => absurd (by decide) hc)
    refine aw_vret rfl dX4_addBytesOf_48 ?_
    refine aw_aload_n (npc := 43) rfl dX7_feed_42 rfl ?_
    refine aw_get (npc := 46) dX7_feed_43 rfl kf_X7_44 O61.1 rfl ?_
    refine aw_get (npc := 49) dX7_feed_46 rfl kf_X7_234 Rd60.2.1 rfl ?_
    refine aw_iret rfl dX7_feed_49 ?_
    exact k0 (by omega) _ Rd60 (am_fpU (show ¬ (40 < 40 ∨ 42 ≤ 40) by omega) (am_fpU (show ¬ (41 < 40 ∨ 42 ≤ 41) by omega) (am_fpU (show ¬ (40 < 40 ∨ 42 ≤ 40) by omega) (am_fpU (show ¬ (41 < 40 ∨ 42 ≤ 41) by omega) (am_fpU (show ¬ (40 < 40 ∨ 42 ≤ 40) by omega) (am_fpU (show ¬ (41 < 40 ∨ 42 ≤ 41) by omega) (am_fpU (show ¬ (40 < 40 ∨ 42 ≤ 40) by omega) (am_fpU (show ¬ (41 < 40 ∨ 42 ≤ 41) by omega) (am_fpU (show ¬ (40 < 40 ∨ 42 ≤ 40) by omega) (am_fpU (show ¬ (41 < 40 ∨ 42 ≤ 41) by omega) (am_fpU (show ¬ (40 < 40 ∨ 42 ≤ 40) by omega) (am_fpU (show ¬ (41 < 40 ∨ 42 ≤ 41) by omega) (am_fpU (show ¬ (40 < 40 ∨ 42 ≤ 40) by omega) (am_fpU (show ¬ (41 < 40 ∨ 42 ≤ 41) by omega) (am_fpU (show ¬ (40 < 40 ∨ 42 ≤ 40) by omega) (am_fpU (show ¬ (41 < 40 ∨ 42 ≤ 41) by omega) (am_fpU (show ¬ (40 < 40 ∨ 42 ≤ 40) by omega) (am_fpU (show ¬ (41 < 40 ∨ 42 ≤ 41) by omega) (am_fpU (show ¬ (40 < 40 ∨ 42 ≤ 40) by omega) (am_fpU (show ¬ (41 < 40 ∨ 42 ≤ 41) by omega) (am_fpU (show ¬ (40 < 40 ∨ 42 ≤ 40) by omega) (am_fpU (show ¬ (41 < 40 ∨ 42 ≤ 41) by omega) (am_fpU (show ¬ (40 < 40 ∨ 42 ≤ 40) by omega) (am_fpU (show ¬ (41 < 40 ∨ 42 ≤ 41) by omega) am_fp0))))))))))))))))))))))))
  · have hc1N : ¬ (L + 12) ≤ 96 := fun z9q => hc1 ((nI_leI (a := (L + 12)) (b := 96) (by omega) (by omega)).mpr z9q)
    refine aw_ldc (npc := 17) kc_X7_82 dX7_feed_15 rfl ?_
    refine aw_iret rfl dX7_feed_17 ?_
    exact k1 (by omega)
set_option maxHeartbeats 4000000 in
set_option maxRecDepth 100000 in
theorem M_feed {X : List Int32} {d rc rs n : Nat} {Q : am_Q} {h : am_H} {o N : Nat → Int32} {a : Nat → Nat → Int32} {b : Int32} {c : Int32} {e : Int32} {L : Nat} (F : MR o N a h) (hL : o 9 = nI L) (hL96 : L ≤ 96) (k1 : 96 < L + 12 → Q (some (.int (-1000000003))) n h) (k0 : L + 12 ≤ 96 → ∀ a9 h9, a9 75 = fd12 (a 75) L b c e → (∀ c, c ≠ 75 → a9 c = a c) → MR (upd o 9 (nI (L + 12))) N a9 h9 → am_fp (fun k => k < 69 ∨ 92 ≤ k) h9 h → Q (some (.int (nI (L + 12)))) n h9) : AW X mX8_feed (d + 12) rc rs 0 [some (.ref 69), some (.int b), some (.int c), some (.int e), none, none] [] n h Q := by
  refine aw_aload_n (npc := 1) rfl dX8_feed_0 rfl ?_
  refine aw_get (npc := 4) dX8_feed_1 rfl kf_X8_192 F.1 rfl ?_
  refine aw_top (y := nI L) (hL) ?_
  refine aw_bipush (npc := 6) (v := 12) (by decide) dX8_feed_4 rfl ?_
  refine aw_iaddV (npc := 7) (v := nI (L + 12)) dX8_feed_6 rfl (nI_add _ 12) ?_
  refine aw_bipush (npc := 9) (v := 96) (by decide) dX8_feed_7 rfl ?_
  refine aw_icmp_le (npc := 12) (tgt := 15) dX8_feed_9 rfl (by decide) (fun hc1 => ?_) (fun hc1 => ?_)
  · have hc1N := (nI_leI (a := (L + 12)) (b := 96) (by omega) (by omega)).mp hc1
    refine aw_iconst (npc := 16) (v := 0) (by decide) dX8_feed_15 rfl ?_
    refine aw_istore (npc := 18) (L' := [some (.ref 69), some (.int b), some (.int c), some (.int e), some (.int 0), none]) dX8_feed_16 rfl (by decide) rfl rfl ?_
    refine aw_iload (npc := 20) rfl dX8_feed_18 rfl ?_
    refine aw_bipush (npc := 22) (v := 12) (by decide) dX8_feed_20 rfl ?_
    refine aw_icmp_ge (npc := 25) (tgt := 84) dX8_feed_22 rfl (by decide) (fun hc => absurd hc (by decide)) (fun _ => ?_)
    refine aw_iload (npc := 27) rfl dX8_feed_25 rfl ?_
    refine aw_iconst (npc := 28) (v := 4) (by decide) dX8_feed_27 rfl ?_
    refine aw_icmp_ge (npc := 31) (tgt := 35) dX8_feed_28 rfl (by decide) (fun hc => absurd hc (by decide)) (fun _ => ?_)
    refine aw_iload_n (npc := 32) rfl dX8_feed_31 rfl ?_
    refine aw_goto (npc := 47) dX8_feed_32 (by decide) ?_
    refine aw_istore (npc := 49) (L' := [some (.ref 69), some (.int b), some (.int c), some (.int e), some (.int 0), some (.int b)]) dX8_feed_47 rfl (by decide) rfl rfl ?_
    refine aw_aload_n (npc := 50) rfl dX8_feed_49 rfl ?_
    refine aw_get (npc := 53) dX8_feed_50 rfl kf_X8_29 F.1 rfl ?_
    refine aw_aload_n (npc := 54) rfl dX8_feed_53 rfl ?_
    refine aw_get (npc := 57) dX8_feed_54 rfl kf_X8_192 F.1 rfl ?_
    refine aw_top (y := nI L) (hL) ?_
    refine aw_iload (npc := 59) rfl dX8_feed_57 rfl ?_
    refine aw_iaddV (npc := 60) (v := nI (L + 0)) dX8_feed_59 rfl (nI_add _ 0) ?_
    refine aw_iload (npc := 62) rfl dX8_feed_60 rfl ?_
    refine aw_bipush (npc := 64) (v := 24) (by decide) dX8_feed_62 rfl ?_
    refine aw_bipush (npc := 66) (v := 8) (by decide) dX8_feed_64 rfl ?_
    refine aw_iload (npc := 68) rfl dX8_feed_66 rfl ?_
    refine aw_iconst (npc := 69) (v := 4) (by decide) dX8_feed_68 rfl ?_
    refine aw_iremV (npc := 70) (v := 0) (by decide) dX8_feed_69 rfl (by decide) ?_
    refine aw_imulV (npc := 71) (v := 0) dX8_feed_70 rfl (by decide) ?_
    refine aw_isubV (npc := 72) (v := 24) dX8_feed_71 rfl (by decide) ?_
    refine aw_ishrV (npc := 73) (v := sar b 24) dX8_feed_72 rfl (rfl) ?_
    refine aw_sipush (npc := 76) (v := 255) (by decide) dX8_feed_73 rfl ?_
    refine aw_iandV (npc := 77) (v := byt b 24) dX8_feed_76 rfl (byt_24 b) ?_
    refine aw_iast (npc := 78) (j := (L + 0)) dX8_feed_77 rfl F.2.2.2.2.2.2.1 (am_ix_nI (by omega)) (by rw [tl_len]; omega) rfl ?_
    have F2 := mr_75 (j := (L + 0)) (v := byt b 24) F
    refine aw_iinc (npc := 81) (v := 1) (L' := [some (.ref 69), some (.int b), some (.int c), some (.int e), some (.int 1), some (.int b)]) dX8_feed_78 rfl rfl (by decide) (by decide) rfl rfl ?_
    refine aw_goto (npc := 18) dX8_feed_81 (by decide) ?_
    refine aw_iload (npc := 20) rfl dX8_feed_18 rfl ?_
    refine aw_bipush (npc := 22) (v := 12) (by decide) dX8_feed_20 rfl ?_
    refine aw_icmp_ge (npc := 25) (tgt := 84) dX8_feed_22 rfl (by decide) (fun hc => absurd hc (by decide)) (fun _ => ?_)
    refine aw_iload (npc := 27) rfl dX8_feed_25 rfl ?_
    refine aw_iconst (npc := 28) (v := 4) (by decide) dX8_feed_27 rfl ?_
    refine aw_icmp_ge (npc := 31) (tgt := 35) dX8_feed_28 rfl (by decide) (fun hc => absurd hc (by decide)) (fun _ => ?_)
    refine aw_iload_n (npc := 32) rfl dX8_feed_31 rfl ?_
    refine aw_goto (npc := 47) dX8_feed_32 (by decide) ?_
    refine aw_istore (npc := 49) (L' := [some (.ref 69), some (.int b), some (.int c), some (.int e), some (.int 1), some (.int b)]) dX8_feed_47 rfl (by decide) rfl rfl ?_
    refine aw_aload_n (npc := 50) rfl dX8_feed_49 rfl ?_
    refine aw_get (npc := 53) dX8_feed_50 rfl kf_X8_29 F2.1 rfl ?_
    refine aw_aload_n (npc := 54) rfl dX8_feed_53 rfl ?_
    refine aw_get (npc := 57) dX8_feed_54 rfl kf_X8_192 F2.1 rfl ?_
    refine aw_top (y := nI L) (hL) ?_
    refine aw_iload (npc := 59) rfl dX8_feed_57 rfl ?_
    refine aw_iaddV (npc := 60) (v := nI (L + 1)) dX8_feed_59 rfl (nI_add _ 1) ?_
    refine aw_iload (npc := 62) rfl dX8_feed_60 rfl ?_
    refine aw_bipush (npc := 64) (v := 24) (by decide) dX8_feed_62 rfl ?_
    refine aw_bipush (npc := 66) (v := 8) (by decide) dX8_feed_64 rfl ?_
    refine aw_iload (npc := 68) rfl dX8_feed_66 rfl ?_
    refine aw_iconst (npc := 69) (v := 4) (by decide) dX8_feed_68 rfl ?_
    refine aw_iremV (npc := 70) (v := 1) (by decide) dX8_feed_69 rfl (by decide) ?_
    refine aw_imulV (npc := 71) (v := 8) dX8_feed_70 rfl (by decide) ?_
    refine aw_isubV (npc := 72) (v := 16) dX8_feed_71 rfl (by decide) ?_
    refine aw_ishrV (npc := 73) (v := sar b 16) dX8_feed_72 rfl (rfl) ?_
    refine aw_sipush (npc := 76) (v := 255) (by decide) dX8_feed_73 rfl ?_
    refine aw_iandV (npc := 77) (v := byt b 16) dX8_feed_76 rfl (byt_16 b) ?_
    refine aw_iast (npc := 78) (j := (L + 1)) dX8_feed_77 rfl F2.2.2.2.2.2.2.1 (am_ix_nI (by omega)) (by rw [tl_len]; omega) rfl ?_
    have F3 := mr_75 (j := (L + 1)) (v := byt b 16) F2
    refine aw_iinc (npc := 81) (v := 2) (L' := [some (.ref 69), some (.int b), some (.int c), some (.int e), some (.int 2), some (.int b)]) dX8_feed_78 rfl rfl (by decide) (by decide) rfl rfl ?_
    refine aw_goto (npc := 18) dX8_feed_81 (by decide) ?_
    refine aw_iload (npc := 20) rfl dX8_feed_18 rfl ?_
    refine aw_bipush (npc := 22) (v := 12) (by decide) dX8_feed_20 rfl ?_
    refine aw_icmp_ge (npc := 25) (tgt := 84) dX8_feed_22 rfl (by decide) (fun hc => absurd hc (by decide)) (fun _ => ?_)
    refine aw_iload (npc := 27) rfl dX8_feed_25 rfl ?_
    refine aw_iconst (npc := 28) (v := 4) (by decide) dX8_feed_27 rfl ?_
    refine aw_icmp_ge (npc := 31) (tgt := 35) dX8_feed_28 rfl (by decide) (fun hc => absurd hc (by decide)) (fun _ => ?_)
    refine aw_iload_n (npc := 32) rfl dX8_feed_31 rfl ?_
    refine aw_goto (npc := 47) dX8_feed_32 (by decide) ?_
    refine aw_istore (npc := 49) (L' := [some (.ref 69), some (.int b), some (.int c), some (.int e), some (.int 2), some (.int b)]) dX8_feed_47 rfl (by decide) rfl rfl ?_
    refine aw_aload_n (npc := 50) rfl dX8_feed_49 rfl ?_
    refine aw_get (npc := 53) dX8_feed_50 rfl kf_X8_29 F3.1 rfl ?_
    refine aw_aload_n (npc := 54) rfl dX8_feed_53 rfl ?_
    refine aw_get (npc := 57) dX8_feed_54 rfl kf_X8_192 F3.1 rfl ?_
    refine aw_top (y := nI L) (hL) ?_
    refine aw_iload (npc := 59) rfl dX8_feed_57 rfl ?_
    refine aw_iaddV (npc := 60) (v := nI (L + 2)) dX8_feed_59 rfl (nI_add _ 2) ?_
    refine aw_iload (npc := 62) rfl dX8_feed_60 rfl ?_
    refine aw_bipush (npc := 64) (v := 24) (by decide) dX8_feed_62 rfl ?_
    refine aw_bipush (npc := 66) (v := 8) (by decide) dX8_feed_64 rfl ?_
    refine aw_iload (npc := 68) rfl dX8_feed_66 rfl ?_
    refine aw_iconst (npc := 69) (v := 4) (by decide) dX8_feed_68 rfl ?_
    refine aw_iremV (npc := 70) (v := 2) (by decide) dX8_feed_69 rfl (by decide) ?_
    refine aw_imulV (npc := 71) (v := 16) dX8_feed_70 rfl (by decide) ?_
    refine aw_isubV (npc := 72) (v := 8) dX8_feed_71 rfl (by decide) ?_
    refine aw_ishrV (npc := 73) (v := sar b 8) dX8_feed_72 rfl (rfl) ?_
    refine aw_sipush (npc := 76) (v := 255) (by decide) dX8_feed_73 rfl ?_
    refine aw_iandV (npc := 77) (v := byt b 8) dX8_feed_76 rfl (byt_8 b) ?_
    refine aw_iast (npc := 78) (j := (L + 2)) dX8_feed_77 rfl F3.2.2.2.2.2.2.1 (am_ix_nI (by omega)) (by rw [tl_len]; omega) rfl ?_
    have F4 := mr_75 (j := (L + 2)) (v := byt b 8) F3
    refine aw_iinc (npc := 81) (v := 3) (L' := [some (.ref 69), some (.int b), some (.int c), some (.int e), some (.int 3), some (.int b)]) dX8_feed_78 rfl rfl (by decide) (by decide) rfl rfl ?_
    refine aw_goto (npc := 18) dX8_feed_81 (by decide) ?_
    refine aw_iload (npc := 20) rfl dX8_feed_18 rfl ?_
    refine aw_bipush (npc := 22) (v := 12) (by decide) dX8_feed_20 rfl ?_
    refine aw_icmp_ge (npc := 25) (tgt := 84) dX8_feed_22 rfl (by decide) (fun hc => absurd hc (by decide)) (fun _ => ?_)
    refine aw_iload (npc := 27) rfl dX8_feed_25 rfl ?_
    refine aw_iconst (npc := 28) (v := 4) (by decide) dX8_feed_27 rfl ?_
    refine aw_icmp_ge (npc := 31) (tgt := 35) dX8_feed_28 rfl (by decide) (fun hc => absurd hc (by decide)) (fun _ => ?_)
    refine aw_iload_n (npc := 32) rfl dX8_feed_31 rfl ?_
    refine aw_goto (npc := 47) dX8_feed_32 (by decide) ?_
    refine aw_istore (npc := 49) (L' := [some (.ref 69), some (.int b), some (.int c), some (.int e), some (.int 3), some (.int b)]) dX8_feed_47 rfl (by decide) rfl rfl ?_
    refine aw_aload_n (npc := 50) rfl dX8_feed_49 rfl ?_
    refine aw_get (npc := 53) dX8_feed_50 rfl kf_X8_29 F4.1 rfl ?_
    refine aw_aload_n (npc := 54) rfl dX8_feed_53 rfl ?_
    refine aw_get (npc := 57) dX8_feed_54 rfl kf_X8_192 F4.1 rfl ?_
    refine aw_top (y := nI L) (hL) ?_
    refine aw_iload (npc := 59) rfl dX8_feed_57 rfl ?_
    refine aw_iaddV (npc := 60) (v := nI (L + 3)) dX8_feed_59 rfl (nI_add _ 3) ?_
    refine aw_iload (npc := 62) rfl dX8_feed_60 rfl ?_
    refine aw_bipush (npc := 64) (v := 24) (by decide) dX8_feed_62 rfl ?_
    refine aw_bipush (npc := 66) (v := 8) (by decide) dX8_feed_64 rfl ?_
    refine aw_iload (npc := 68) rfl dX8_feed_66 rfl ?_
    refine aw_iconst (npc := 69) (v := 4) (by decide) dX8_feed_68 rfl ?_
    refine aw_iremV (npc := 70) (v := 3) (by decide) dX8_feed_69 rfl (by decide) ?_
    refine aw_imulV (npc := 71) (v := 24) dX8_feed_70 rfl (by decide) ?_
    refine aw_isubV (npc := 72) (v := 0) dX8_feed_71 rfl (by decide) ?_
    refine aw_ishrV (npc := 73) (v := sar b 0) dX8_feed_72 rfl (rfl) ?_
    refine aw_sipush (npc := 76) (v := 255) (by decide) dX8_feed_73 rfl ?_
    refine aw_iandV (npc := 77) (v := byt b 0) dX8_feed_76 rfl (byt_0 b) ?_
    refine aw_iast (npc := 78) (j := (L + 3)) dX8_feed_77 rfl F4.2.2.2.2.2.2.1 (am_ix_nI (by omega)) (by rw [tl_len]; omega) rfl ?_
    have F5 := mr_75 (j := (L + 3)) (v := byt b 0) F4
    refine aw_iinc (npc := 81) (v := 4) (L' := [some (.ref 69), some (.int b), some (.int c), some (.int e), some (.int 4), some (.int b)]) dX8_feed_78 rfl rfl (by decide) (by decide) rfl rfl ?_
    refine aw_goto (npc := 18) dX8_feed_81 (by decide) ?_
    refine aw_iload (npc := 20) rfl dX8_feed_18 rfl ?_
    refine aw_bipush (npc := 22) (v := 12) (by decide) dX8_feed_20 rfl ?_
    refine aw_icmp_ge (npc := 25) (tgt := 84) dX8_feed_22 rfl (by decide) (fun hc => absurd hc (by decide)) (fun _ => ?_)
    refine aw_iload (npc := 27) rfl dX8_feed_25 rfl ?_
    refine aw_iconst (npc := 28) (v := 4) (by decide) dX8_feed_27 rfl ?_
    refine aw_icmp_ge (npc := 31) (tgt := 35) dX8_feed_28 rfl (by decide) (fun _ => ?_) (fun hc => absurd (by decide) hc)
    refine aw_iload (npc := 37) rfl dX8_feed_35 rfl ?_
    refine aw_bipush (npc := 39) (v := 8) (by decide) dX8_feed_37 rfl ?_
    refine aw_icmp_ge (npc := 42) (tgt := 46) dX8_feed_39 rfl (by decide) (fun hc => absurd hc (by decide)) (fun _ => ?_)
    refine aw_iload_n (npc := 43) rfl dX8_feed_42 rfl ?_
    refine aw_goto (npc := 47) dX8_feed_43 (by decide) ?_
    refine aw_istore (npc := 49) (L' := [some (.ref 69), some (.int b), some (.int c), some (.int e), some (.int 4), some (.int c)]) dX8_feed_47 rfl (by decide) rfl rfl ?_
    refine aw_aload_n (npc := 50) rfl dX8_feed_49 rfl ?_
    refine aw_get (npc := 53) dX8_feed_50 rfl kf_X8_29 F5.1 rfl ?_
    refine aw_aload_n (npc := 54) rfl dX8_feed_53 rfl ?_
    refine aw_get (npc := 57) dX8_feed_54 rfl kf_X8_192 F5.1 rfl ?_
    refine aw_top (y := nI L) (hL) ?_
    refine aw_iload (npc := 59) rfl dX8_feed_57 rfl ?_
    refine aw_iaddV (npc := 60) (v := nI (L + 4)) dX8_feed_59 rfl (nI_add _ 4) ?_
    refine aw_iload (npc := 62) rfl dX8_feed_60 rfl ?_
    refine aw_bipush (npc := 64) (v := 24) (by decide) dX8_feed_62 rfl ?_
    refine aw_bipush (npc := 66) (v := 8) (by decide) dX8_feed_64 rfl ?_
    refine aw_iload (npc := 68) rfl dX8_feed_66 rfl ?_
    refine aw_iconst (npc := 69) (v := 4) (by decide) dX8_feed_68 rfl ?_
    refine aw_iremV (npc := 70) (v := 0) (by decide) dX8_feed_69 rfl (by decide) ?_
    refine aw_imulV (npc := 71) (v := 0) dX8_feed_70 rfl (by decide) ?_
    refine aw_isubV (npc := 72) (v := 24) dX8_feed_71 rfl (by decide) ?_
    refine aw_ishrV (npc := 73) (v := sar c 24) dX8_feed_72 rfl (rfl) ?_
    refine aw_sipush (npc := 76) (v := 255) (by decide) dX8_feed_73 rfl ?_
    refine aw_iandV (npc := 77) (v := byt c 24) dX8_feed_76 rfl (byt_24 c) ?_
    refine aw_iast (npc := 78) (j := (L + 4)) dX8_feed_77 rfl F5.2.2.2.2.2.2.1 (am_ix_nI (by omega)) (by rw [tl_len]; omega) rfl ?_
    have F6 := mr_75 (j := (L + 4)) (v := byt c 24) F5
    refine aw_iinc (npc := 81) (v := 5) (L' := [some (.ref 69), some (.int b), some (.int c), some (.int e), some (.int 5), some (.int c)]) dX8_feed_78 rfl rfl (by decide) (by decide) rfl rfl ?_
    refine aw_goto (npc := 18) dX8_feed_81 (by decide) ?_
    refine aw_iload (npc := 20) rfl dX8_feed_18 rfl ?_
    refine aw_bipush (npc := 22) (v := 12) (by decide) dX8_feed_20 rfl ?_
    refine aw_icmp_ge (npc := 25) (tgt := 84) dX8_feed_22 rfl (by decide) (fun hc => absurd hc (by decide)) (fun _ => ?_)
    refine aw_iload (npc := 27) rfl dX8_feed_25 rfl ?_
    refine aw_iconst (npc := 28) (v := 4) (by decide) dX8_feed_27 rfl ?_
    refine aw_icmp_ge (npc := 31) (tgt := 35) dX8_feed_28 rfl (by decide) (fun _ => ?_) (fun hc => absurd (by decide) hc)
    refine aw_iload (npc := 37) rfl dX8_feed_35 rfl ?_
    refine aw_bipush (npc := 39) (v := 8) (by decide) dX8_feed_37 rfl ?_
    refine aw_icmp_ge (npc := 42) (tgt := 46) dX8_feed_39 rfl (by decide) (fun hc => absurd hc (by decide)) (fun _ => ?_)
    refine aw_iload_n (npc := 43) rfl dX8_feed_42 rfl ?_
    refine aw_goto (npc := 47) dX8_feed_43 (by decide) ?_
    refine aw_istore (npc := 49) (L' := [some (.ref 69), some (.int b), some (.int c), some (.int e), some (.int 5), some (.int c)]) dX8_feed_47 rfl (by decide) rfl rfl ?_
    refine aw_aload_n (npc := 50) rfl dX8_feed_49 rfl ?_
    refine aw_get (npc := 53) dX8_feed_50 rfl kf_X8_29 F6.1 rfl ?_
    refine aw_aload_n (npc := 54) rfl dX8_feed_53 rfl ?_
    refine aw_get (npc := 57) dX8_feed_54 rfl kf_X8_192 F6.1 rfl ?_
    refine aw_top (y := nI L) (hL) ?_
    refine aw_iload (npc := 59) rfl dX8_feed_57 rfl ?_
    refine aw_iaddV (npc := 60) (v := nI (L + 5)) dX8_feed_59 rfl (nI_add _ 5) ?_
    refine aw_iload (npc := 62) rfl dX8_feed_60 rfl ?_
    refine aw_bipush (npc := 64) (v := 24) (by decide) dX8_feed_62 rfl ?_
    refine aw_bipush (npc := 66) (v := 8) (by decide) dX8_feed_64 rfl ?_
    refine aw_iload (npc := 68) rfl dX8_feed_66 rfl ?_
    refine aw_iconst (npc := 69) (v := 4) (by decide) dX8_feed_68 rfl ?_
    refine aw_iremV (npc := 70) (v := 1) (by decide) dX8_feed_69 rfl (by decide) ?_
    refine aw_imulV (npc := 71) (v := 8) dX8_feed_70 rfl (by decide) ?_
    refine aw_isubV (npc := 72) (v := 16) dX8_feed_71 rfl (by decide) ?_
    refine aw_ishrV (npc := 73) (v := sar c 16) dX8_feed_72 rfl (rfl) ?_
    refine aw_sipush (npc := 76) (v := 255) (by decide) dX8_feed_73 rfl ?_
    refine aw_iandV (npc := 77) (v := byt c 16) dX8_feed_76 rfl (byt_16 c) ?_
    refine aw_iast (npc := 78) (j := (L + 5)) dX8_feed_77 rfl F6.2.2.2.2.2.2.1 (am_ix_nI (by omega)) (by rw [tl_len]; omega) rfl ?_
    have F7 := mr_75 (j := (L + 5)) (v := byt c 16) F6
    refine aw_iinc (npc := 81) (v := 6) (L' := [some (.ref 69), some (.int b), some (.int c), some (.int e), some (.int 6), some (.int c)]) dX8_feed_78 rfl rfl (by decide) (by decide) rfl rfl ?_
    refine aw_goto (npc := 18) dX8_feed_81 (by decide) ?_
    refine aw_iload (npc := 20) rfl dX8_feed_18 rfl ?_
    refine aw_bipush (npc := 22) (v := 12) (by decide) dX8_feed_20 rfl ?_
    refine aw_icmp_ge (npc := 25) (tgt := 84) dX8_feed_22 rfl (by decide) (fun hc => absurd hc (by decide)) (fun _ => ?_)
    refine aw_iload (npc := 27) rfl dX8_feed_25 rfl ?_
    refine aw_iconst (npc := 28) (v := 4) (by decide) dX8_feed_27 rfl ?_
    refine aw_icmp_ge (npc := 31) (tgt := 35) dX8_feed_28 rfl (by decide) (fun _ => ?_) (fun hc => absurd (by decide) hc)
    refine aw_iload (npc := 37) rfl dX8_feed_35 rfl ?_
    refine aw_bipush (npc := 39) (v := 8) (by decide) dX8_feed_37 rfl ?_
    refine aw_icmp_ge (npc := 42) (tgt := 46) dX8_feed_39 rfl (by decide) (fun hc => absurd hc (by decide)) (fun _ => ?_)
    refine aw_iload_n (npc := 43) rfl dX8_feed_42 rfl ?_
    refine aw_goto (npc := 47) dX8_feed_43 (by decide) ?_
    refine aw_istore (npc := 49) (L' := [some (.ref 69), some (.int b), some (.int c), some (.int e), some (.int 6), some (.int c)]) dX8_feed_47 rfl (by decide) rfl rfl ?_
    refine aw_aload_n (npc := 50) rfl dX8_feed_49 rfl ?_
    refine aw_get (npc := 53) dX8_feed_50 rfl kf_X8_29 F7.1 rfl ?_
    refine aw_aload_n (npc := 54) rfl dX8_feed_53 rfl ?_
    refine aw_get (npc := 57) dX8_feed_54 rfl kf_X8_192 F7.1 rfl ?_
    refine aw_top (y := nI L) (hL) ?_
    refine aw_iload (npc := 59) rfl dX8_feed_57 rfl ?_
    refine aw_iaddV (npc := 60) (v := nI (L + 6)) dX8_feed_59 rfl (nI_add _ 6) ?_
    refine aw_iload (npc := 62) rfl dX8_feed_60 rfl ?_
    refine aw_bipush (npc := 64) (v := 24) (by decide) dX8_feed_62 rfl ?_
    refine aw_bipush (npc := 66) (v := 8) (by decide) dX8_feed_64 rfl ?_
    refine aw_iload (npc := 68) rfl dX8_feed_66 rfl ?_
    refine aw_iconst (npc := 69) (v := 4) (by decide) dX8_feed_68 rfl ?_
    refine aw_iremV (npc := 70) (v := 2) (by decide) dX8_feed_69 rfl (by decide) ?_
    refine aw_imulV (npc := 71) (v := 16) dX8_feed_70 rfl (by decide) ?_
    refine aw_isubV (npc := 72) (v := 8) dX8_feed_71 rfl (by decide) ?_
    refine aw_ishrV (npc := 73) (v := sar c 8) dX8_feed_72 rfl (rfl) ?_
    refine aw_sipush (npc := 76) (v := 255) (by decide) dX8_feed_73 rfl ?_
    refine aw_iandV (npc := 77) (v := byt c 8) dX8_feed_76 rfl (byt_8 c) ?_
    refine aw_iast (npc := 78) (j := (L + 6)) dX8_feed_77 rfl F7.2.2.2.2.2.2.1 (am_ix_nI (by omega)) (by rw [tl_len]; omega) rfl ?_
    have F8 := mr_75 (j := (L + 6)) (v := byt c 8) F7
    refine aw_iinc (npc := 81) (v := 7) (L' := [some (.ref 69), some (.int b), some (.int c), some (.int e), some (.int 7), some (.int c)]) dX8_feed_78 rfl rfl (by decide) (by decide) rfl rfl ?_
    refine aw_goto (npc := 18) dX8_feed_81 (by decide) ?_
    refine aw_iload (npc := 20) rfl dX8_feed_18 rfl ?_
    refine aw_bipush (npc := 22) (v := 12) (by decide) dX8_feed_20 rfl ?_
    refine aw_icmp_ge (npc := 25) (tgt := 84) dX8_feed_22 rfl (by decide) (fun hc => absurd hc (by decide)) (fun _ => ?_)
    refine aw_iload (npc := 27) rfl dX8_feed_25 rfl ?_
    refine aw_iconst (npc := 28) (v := 4) (by decide) dX8_feed_27 rfl ?_
    refine aw_icmp_ge (npc := 31) (tgt := 35) dX8_feed_28 rfl (by decide) (fun _ => ?_) (fun hc => absurd (by decide) hc)
    refine aw_iload (npc := 37) rfl dX8_feed_35 rfl ?_
    refine aw_bipush (npc := 39) (v := 8) (by decide) dX8_feed_37 rfl ?_
    refine aw_icmp_ge (npc := 42) (tgt := 46) dX8_feed_39 rfl (by decide) (fun hc => absurd hc (by decide)) (fun _ => ?_)
    refine aw_iload_n (npc := 43) rfl dX8_feed_42 rfl ?_
    refine aw_goto (npc := 47) dX8_feed_43 (by decide) ?_
    refine aw_istore (npc := 49) (L' := [some (.ref 69), some (.int b), some (.int c), some (.int e), some (.int 7), some (.int c)]) dX8_feed_47 rfl (by decide) rfl rfl ?_
    refine aw_aload_n (npc := 50) rfl dX8_feed_49 rfl ?_
    refine aw_get (npc := 53) dX8_feed_50 rfl kf_X8_29 F8.1 rfl ?_
    refine aw_aload_n (npc := 54) rfl dX8_feed_53 rfl ?_
    refine aw_get (npc := 57) dX8_feed_54 rfl kf_X8_192 F8.1 rfl ?_
    refine aw_top (y := nI L) (hL) ?_
    refine aw_iload (npc := 59) rfl dX8_feed_57 rfl ?_
    refine aw_iaddV (npc := 60) (v := nI (L + 7)) dX8_feed_59 rfl (nI_add _ 7) ?_
    refine aw_iload (npc := 62) rfl dX8_feed_60 rfl ?_
    refine aw_bipush (npc := 64) (v := 24) (by decide) dX8_feed_62 rfl ?_
    refine aw_bipush (npc := 66) (v := 8) (by decide) dX8_feed_64 rfl ?_
    refine aw_iload (npc := 68) rfl dX8_feed_66 rfl ?_
    refine aw_iconst (npc := 69) (v := 4) (by decide) dX8_feed_68 rfl ?_
    refine aw_iremV (npc := 70) (v := 3) (by decide) dX8_feed_69 rfl (by decide) ?_
    refine aw_imulV (npc := 71) (v := 24) dX8_feed_70 rfl (by decide) ?_
    refine aw_isubV (npc := 72) (v := 0) dX8_feed_71 rfl (by decide) ?_
    refine aw_ishrV (npc := 73) (v := sar c 0) dX8_feed_72 rfl (rfl) ?_
    refine aw_sipush (npc := 76) (v := 255) (by decide) dX8_feed_73 rfl ?_
    refine aw_iandV (npc := 77) (v := byt c 0) dX8_feed_76 rfl (byt_0 c) ?_
    refine aw_iast (npc := 78) (j := (L + 7)) dX8_feed_77 rfl F8.2.2.2.2.2.2.1 (am_ix_nI (by omega)) (by rw [tl_len]; omega) rfl ?_
    have F9 := mr_75 (j := (L + 7)) (v := byt c 0) F8
    refine aw_iinc (npc := 81) (v := 8) (L' := [some (.ref 69), some (.int b), some (.int c), some (.int e), some (.int 8), some (.int c)]) dX8_feed_78 rfl rfl (by decide) (by decide) rfl rfl ?_
    refine aw_goto (npc := 18) dX8_feed_81 (by decide) ?_
    refine aw_iload (npc := 20) rfl dX8_feed_18 rfl ?_
    refine aw_bipush (npc := 22) (v := 12) (by decide) dX8_feed_20 rfl ?_
    refine aw_icmp_ge (npc := 25) (tgt := 84) dX8_feed_22 rfl (by decide) (fun hc => absurd hc (by decide)) (fun _ => ?_)
    refine aw_iload (npc := 27) rfl dX8_feed_25 rfl ?_
    refine aw_iconst (npc := 28) (v := 4) (by decide) dX8_feed_27 rfl ?_
    refine aw_icmp_ge (npc := 31) (tgt := 35) dX8_feed_28 rfl (by decide) (fun _ => ?_) (fun hc => absurd (by decide) hc)
    refine aw_iload (npc := 37) rfl dX8_feed_35 rfl ?_
    refine aw_bipush (npc := 39) (v := 8) (by decide) dX8_feed_37 rfl ?_
    refine aw_icmp_ge (npc := 42) (tgt := 46) dX8_feed_39 rfl (by decide) (fun _ => ?_) (fun hc => absurd (by decide) hc)
    refine aw_iload_n (npc := 47) rfl dX8_feed_46 rfl ?_
    refine aw_istore (npc := 49) (L' := [some (.ref 69), some (.int b), some (.int c), some (.int e), some (.int 8), some (.int e)]) dX8_feed_47 rfl (by decide) rfl rfl ?_
    refine aw_aload_n (npc := 50) rfl dX8_feed_49 rfl ?_
    refine aw_get (npc := 53) dX8_feed_50 rfl kf_X8_29 F9.1 rfl ?_
    refine aw_aload_n (npc := 54) rfl dX8_feed_53 rfl ?_
    refine aw_get (npc := 57) dX8_feed_54 rfl kf_X8_192 F9.1 rfl ?_
    refine aw_top (y := nI L) (hL) ?_
    refine aw_iload (npc := 59) rfl dX8_feed_57 rfl ?_
    refine aw_iaddV (npc := 60) (v := nI (L + 8)) dX8_feed_59 rfl (nI_add _ 8) ?_
    refine aw_iload (npc := 62) rfl dX8_feed_60 rfl ?_
    refine aw_bipush (npc := 64) (v := 24) (by decide) dX8_feed_62 rfl ?_
    refine aw_bipush (npc := 66) (v := 8) (by decide) dX8_feed_64 rfl ?_
    refine aw_iload (npc := 68) rfl dX8_feed_66 rfl ?_
    refine aw_iconst (npc := 69) (v := 4) (by decide) dX8_feed_68 rfl ?_
    refine aw_iremV (npc := 70) (v := 0) (by decide) dX8_feed_69 rfl (by decide) ?_
    refine aw_imulV (npc := 71) (v := 0) dX8_feed_70 rfl (by decide) ?_
    refine aw_isubV (npc := 72) (v := 24) dX8_feed_71 rfl (by decide) ?_
    refine aw_ishrV (npc := 73) (v := sar e 24) dX8_feed_72 rfl (rfl) ?_
    refine aw_sipush (npc := 76) (v := 255) (by decide) dX8_feed_73 rfl ?_
    refine aw_iandV (npc := 77) (v := byt e 24) dX8_feed_76 rfl (byt_24 e) ?_
    refine aw_iast (npc := 78) (j := (L + 8)) dX8_feed_77 rfl F9.2.2.2.2.2.2.1 (am_ix_nI (by omega)) (by rw [tl_len]; omega) rfl ?_
    have F10 := mr_75 (j := (L + 8)) (v := byt e 24) F9
    refine aw_iinc (npc := 81) (v := 9) (L' := [some (.ref 69), some (.int b), some (.int c), some (.int e), some (.int 9), some (.int e)]) dX8_feed_78 rfl rfl (by decide) (by decide) rfl rfl ?_
    refine aw_goto (npc := 18) dX8_feed_81 (by decide) ?_
    refine aw_iload (npc := 20) rfl dX8_feed_18 rfl ?_
    refine aw_bipush (npc := 22) (v := 12) (by decide) dX8_feed_20 rfl ?_
    refine aw_icmp_ge (npc := 25) (tgt := 84) dX8_feed_22 rfl (by decide) (fun hc => absurd hc (by decide)) (fun _ => ?_)
    refine aw_iload (npc := 27) rfl dX8_feed_25 rfl ?_
    refine aw_iconst (npc := 28) (v := 4) (by decide) dX8_feed_27 rfl ?_
    refine aw_icmp_ge (npc := 31) (tgt := 35) dX8_feed_28 rfl (by decide) (fun _ => ?_) (fun hc => absurd (by decide) hc)
    refine aw_iload (npc := 37) rfl dX8_feed_35 rfl ?_
    refine aw_bipush (npc := 39) (v := 8) (by decide) dX8_feed_37 rfl ?_
    refine aw_icmp_ge (npc := 42) (tgt := 46) dX8_feed_39 rfl (by decide) (fun _ => ?_) (fun hc => absurd (by decide) hc)
    refine aw_iload_n (npc := 47) rfl dX8_feed_46 rfl ?_
    refine aw_istore (npc := 49) (L' := [some (.ref 69), some (.int b), some (.int c), some (.int e), some (.int 9), some (.int e)]) dX8_feed_47 rfl (by decide) rfl rfl ?_
    refine aw_aload_n (npc := 50) rfl dX8_feed_49 rfl ?_
    refine aw_get (npc := 53) dX8_feed_50 rfl kf_X8_29 F10.1 rfl ?_
    refine aw_aload_n (npc := 54) rfl dX8_feed_53 rfl ?_
    refine aw_get (npc := 57) dX8_feed_54 rfl kf_X8_192 F10.1 rfl ?_
    refine aw_top (y := nI L) (hL) ?_
    refine aw_iload (npc := 59) rfl dX8_feed_57 rfl ?_
    refine aw_iaddV (npc := 60) (v := nI (L + 9)) dX8_feed_59 rfl (nI_add _ 9) ?_
    refine aw_iload (npc := 62) rfl dX8_feed_60 rfl ?_
    refine aw_bipush (npc := 64) (v := 24) (by decide) dX8_feed_62 rfl ?_
    refine aw_bipush (npc := 66) (v := 8) (by decide) dX8_feed_64 rfl ?_
    refine aw_iload (npc := 68) rfl dX8_feed_66 rfl ?_
    refine aw_iconst (npc := 69) (v := 4) (by decide) dX8_feed_68 rfl ?_
    refine aw_iremV (npc := 70) (v := 1) (by decide) dX8_feed_69 rfl (by decide) ?_
    refine aw_imulV (npc := 71) (v := 8) dX8_feed_70 rfl (by decide) ?_
    refine aw_isubV (npc := 72) (v := 16) dX8_feed_71 rfl (by decide) ?_
    refine aw_ishrV (npc := 73) (v := sar e 16) dX8_feed_72 rfl (rfl) ?_
    refine aw_sipush (npc := 76) (v := 255) (by decide) dX8_feed_73 rfl ?_
    refine aw_iandV (npc := 77) (v := byt e 16) dX8_feed_76 rfl (byt_16 e) ?_
    refine aw_iast (npc := 78) (j := (L + 9)) dX8_feed_77 rfl F10.2.2.2.2.2.2.1 (am_ix_nI (by omega)) (by rw [tl_len]; omega) rfl ?_
    have F11 := mr_75 (j := (L + 9)) (v := byt e 16) F10
    refine aw_iinc (npc := 81) (v := 10) (L' := [some (.ref 69), some (.int b), some (.int c), some (.int e), some (.int 10), some (.int e)]) dX8_feed_78 rfl rfl (by decide) (by decide) rfl rfl ?_
    refine aw_goto (npc := 18) dX8_feed_81 (by decide) ?_
    refine aw_iload (npc := 20) rfl dX8_feed_18 rfl ?_
    refine aw_bipush (npc := 22) (v := 12) (by decide) dX8_feed_20 rfl ?_
    refine aw_icmp_ge (npc := 25) (tgt := 84) dX8_feed_22 rfl (by decide) (fun hc => absurd hc (by decide)) (fun _ => ?_)
    refine aw_iload (npc := 27) rfl dX8_feed_25 rfl ?_
    refine aw_iconst (npc := 28) (v := 4) (by decide) dX8_feed_27 rfl ?_
    refine aw_icmp_ge (npc := 31) (tgt := 35) dX8_feed_28 rfl (by decide) (fun _ => ?_) (fun hc => absurd (by decide) hc)
    refine aw_iload (npc := 37) rfl dX8_feed_35 rfl ?_
    refine aw_bipush (npc := 39) (v := 8) (by decide) dX8_feed_37 rfl ?_
    refine aw_icmp_ge (npc := 42) (tgt := 46) dX8_feed_39 rfl (by decide) (fun _ => ?_) (fun hc => absurd (by decide) hc)
    refine aw_iload_n (npc := 47) rfl dX8_feed_46 rfl ?_
    refine aw_istore (npc := 49) (L' := [some (.ref 69), some (.int b), some (.int c), some (.int e), some (.int 10), some (.int e)]) dX8_feed_47 rfl (by decide) rfl rfl ?_
    refine aw_aload_n (npc := 50) rfl dX8_feed_49 rfl ?_
    refine aw_get (npc := 53) dX8_feed_50 rfl kf_X8_29 F11.1 rfl ?_
    refine aw_aload_n (npc := 54) rfl dX8_feed_53 rfl ?_
    refine aw_get (npc := 57) dX8_feed_54 rfl kf_X8_192 F11.1 rfl ?_
    refine aw_top (y := nI L) (hL) ?_
    refine aw_iload (npc := 59) rfl dX8_feed_57 rfl ?_
    refine aw_iaddV (npc := 60) (v := nI (L + 10)) dX8_feed_59 rfl (nI_add _ 10) ?_
    refine aw_iload (npc := 62) rfl dX8_feed_60 rfl ?_
    refine aw_bipush (npc := 64) (v := 24) (by decide) dX8_feed_62 rfl ?_
    refine aw_bipush (npc := 66) (v := 8) (by decide) dX8_feed_64 rfl ?_
    refine aw_iload (npc := 68) rfl dX8_feed_66 rfl ?_
    refine aw_iconst (npc := 69) (v := 4) (by decide) dX8_feed_68 rfl ?_
    refine aw_iremV (npc := 70) (v := 2) (by decide) dX8_feed_69 rfl (by decide) ?_
    refine aw_imulV (npc := 71) (v := 16) dX8_feed_70 rfl (by decide) ?_
    refine aw_isubV (npc := 72) (v := 8) dX8_feed_71 rfl (by decide) ?_
    refine aw_ishrV (npc := 73) (v := sar e 8) dX8_feed_72 rfl (rfl) ?_
    refine aw_sipush (npc := 76) (v := 255) (by decide) dX8_feed_73 rfl ?_
    refine aw_iandV (npc := 77) (v := byt e 8) dX8_feed_76 rfl (byt_8 e) ?_
    refine aw_iast (npc := 78) (j := (L + 10)) dX8_feed_77 rfl F11.2.2.2.2.2.2.1 (am_ix_nI (by omega)) (by rw [tl_len]; omega) rfl ?_
    have F12 := mr_75 (j := (L + 10)) (v := byt e 8) F11
    refine aw_iinc (npc := 81) (v := 11) (L' := [some (.ref 69), some (.int b), some (.int c), some (.int e), some (.int 11), some (.int e)]) dX8_feed_78 rfl rfl (by decide) (by decide) rfl rfl ?_
    refine aw_goto (npc := 18) dX8_feed_81 (by decide) ?_
    refine aw_iload (npc := 20) rfl dX8_feed_18 rfl ?_
    refine aw_bipush (npc := 22) (v := 12) (by decide) dX8_feed_20 rfl ?_
    refine aw_icmp_ge (npc := 25) (tgt := 84) dX8_feed_22 rfl (by decide) (fun hc => absurd hc (by decide)) (fun _ => ?_)
    refine aw_iload (npc := 27) rfl dX8_feed_25 rfl ?_
    refine aw_iconst (npc := 28) (v := 4) (by decide) dX8_feed_27 rfl ?_
    refine aw_icmp_ge (npc := 31) (tgt := 35) dX8_feed_28 rfl (by decide) (fun _ => ?_) (fun hc => absurd (by decide) hc)
    refine aw_iload (npc := 37) rfl dX8_feed_35 rfl ?_
    refine aw_bipush (npc := 39) (v := 8) (by decide) dX8_feed_37 rfl ?_
    refine aw_icmp_ge (npc := 42) (tgt := 46) dX8_feed_39 rfl (by decide) (fun _ => ?_) (fun hc => absurd (by decide) hc)
    refine aw_iload_n (npc := 47) rfl dX8_feed_46 rfl ?_
    refine aw_istore (npc := 49) (L' := [some (.ref 69), some (.int b), some (.int c), some (.int e), some (.int 11), some (.int e)]) dX8_feed_47 rfl (by decide) rfl rfl ?_
    refine aw_aload_n (npc := 50) rfl dX8_feed_49 rfl ?_
    refine aw_get (npc := 53) dX8_feed_50 rfl kf_X8_29 F12.1 rfl ?_
    refine aw_aload_n (npc := 54) rfl dX8_feed_53 rfl ?_
    refine aw_get (npc := 57) dX8_feed_54 rfl kf_X8_192 F12.1 rfl ?_
    refine aw_top (y := nI L) (hL) ?_
    refine aw_iload (npc := 59) rfl dX8_feed_57 rfl ?_
    refine aw_iaddV (npc := 60) (v := nI (L + 11)) dX8_feed_59 rfl (nI_add _ 11) ?_
    refine aw_iload (npc := 62) rfl dX8_feed_60 rfl ?_
    refine aw_bipush (npc := 64) (v := 24) (by decide) dX8_feed_62 rfl ?_
    refine aw_bipush (npc := 66) (v := 8) (by decide) dX8_feed_64 rfl ?_
    refine aw_iload (npc := 68) rfl dX8_feed_66 rfl ?_
    refine aw_iconst (npc := 69) (v := 4) (by decide) dX8_feed_68 rfl ?_
    refine aw_iremV (npc := 70) (v := 3) (by decide) dX8_feed_69 rfl (by decide) ?_
    refine aw_imulV (npc := 71) (v := 24) dX8_feed_70 rfl (by decide) ?_
    refine aw_isubV (npc := 72) (v := 0) dX8_feed_71 rfl (by decide) ?_
    refine aw_ishrV (npc := 73) (v := sar e 0) dX8_feed_72 rfl (rfl) ?_
    refine aw_sipush (npc := 76) (v := 255) (by decide) dX8_feed_73 rfl ?_
    refine aw_iandV (npc := 77) (v := byt e 0) dX8_feed_76 rfl (byt_0 e) ?_
    refine aw_iast (npc := 78) (j := (L + 11)) dX8_feed_77 rfl F12.2.2.2.2.2.2.1 (am_ix_nI (by omega)) (by rw [tl_len]; omega) rfl ?_
    have F13 := mr_75 (j := (L + 11)) (v := byt e 0) F12
    refine aw_iinc (npc := 81) (v := 12) (L' := [some (.ref 69), some (.int b), some (.int c), some (.int e), some (.int 12), some (.int e)]) dX8_feed_78 rfl rfl (by decide) (by decide) rfl rfl ?_
    refine aw_goto (npc := 18) dX8_feed_81 (by decide) ?_
    refine aw_iload (npc := 20) rfl dX8_feed_18 rfl ?_
    refine aw_bipush (npc := 22) (v := 12) (by decide) dX8_feed_20 rfl ?_
    refine aw_icmp_ge (npc := 25) (tgt := 84) dX8_feed_22 rfl (by decide) (fun _ => ?_) (fun hc => absurd (by decide) hc)
    refine aw_aload_n (npc := 85) rfl dX8_feed_84 rfl ?_
    refine aw_dup (npc := 86) rfl dX8_feed_85 rfl ?_
    refine aw_get (npc := 89) dX8_feed_86 rfl kf_X8_192 F13.1 rfl ?_
    refine aw_top (y := nI L) (hL) ?_
    refine aw_bipush (npc := 91) (v := 12) (by decide) dX8_feed_89 rfl ?_
    refine aw_iaddV (npc := 92) (v := nI (L + 12)) dX8_feed_91 rfl (nI_add _ 12) ?_
    refine aw_put (npc := 95) dX8_feed_92 rfl kf_X8_192 F13.1 (Nat.le_of_ble_eq_true rfl) (am_ok_int _) rfl ?_
    have F14 := mr_o9 (v := nI (L + 12)) F13
    refine aw_aload_n (npc := 96) rfl dX8_feed_95 rfl ?_
    refine aw_get (npc := 99) dX8_feed_96 rfl kf_X8_192 F14.1 rfl ?_
    refine aw_top (y := nI (L + 12)) (pk_us) ?_
    refine aw_iret rfl dX8_feed_99 ?_
    exact k0 (by omega) _ _ rfl (fun c hc => (aup_n hc).trans ((aup_n hc).trans ((aup_n hc).trans ((aup_n hc).trans ((aup_n hc).trans ((aup_n hc).trans ((aup_n hc).trans ((aup_n hc).trans ((aup_n hc).trans ((aup_n hc).trans ((aup_n hc).trans (aup_n hc)))))))))))) F14 (am_fpU (show ¬ (69 < 69 ∨ 92 ≤ 69) by omega) (am_fpU (show ¬ (75 < 69 ∨ 92 ≤ 75) by omega) (am_fpU (show ¬ (75 < 69 ∨ 92 ≤ 75) by omega) (am_fpU (show ¬ (75 < 69 ∨ 92 ≤ 75) by omega) (am_fpU (show ¬ (75 < 69 ∨ 92 ≤ 75) by omega) (am_fpU (show ¬ (75 < 69 ∨ 92 ≤ 75) by omega) (am_fpU (show ¬ (75 < 69 ∨ 92 ≤ 75) by omega) (am_fpU (show ¬ (75 < 69 ∨ 92 ≤ 75) by omega) (am_fpU (show ¬ (75 < 69 ∨ 92 ≤ 75) by omega) (am_fpU (show ¬ (75 < 69 ∨ 92 ≤ 75) by omega) (am_fpU (show ¬ (75 < 69 ∨ 92 ≤ 75) by omega) (am_fpU (show ¬ (75 < 69 ∨ 92 ≤ 75) by omega) (am_fpU (show ¬ (75 < 69 ∨ 92 ≤ 75) by omega) am_fp0)))))))))))))
  · have hc1N : ¬ (L + 12) ≤ 96 := fun z9q => hc1 ((nI_leI (a := (L + 12)) (b := 96) (by omega) (by omega)).mpr z9q)
    refine aw_ldc (npc := 14) kc_X8_92 dX8_feed_12 rfl ?_
    refine aw_iret rfl dX8_feed_14 ?_
    exact k1 (by omega)
def remK (x k : Int32) : Int32 := x - x / k * k
def dlS (N : Nat → Int32) (f : Nat) : Nat → Int32 := addN (drawN (drawN (drawN N))) f (remK (drawV N) 6) (remK (drawV (drawN N)) 2) (remK (drawV (drawN (drawN N))) 100)
def dlN : Nat → Nat → (Nat → Int32) → (Nat → Int32)
  | 0, _, N => N
  | m + 1, f, N => dlN m (f + 1) (dlS N f)
theorem dl1 {N : Nat → Int32} {f : Nat} {k s p : Int32} : addN N f k s p 1 = nI (f + 1) := pk_us
theorem dr1 {N : Nat → Int32} {k : Nat} (h : k ≠ 0) : drawN N k = N k := pk_un h
theorem min_nI {a b : Nat} (ha : a < 1000000) (hb : b < 1000000) : (if nI b < nI a then nI b else nI a) = nI (min a b) := by
  by_cases q : b < a
  · rw [if_pos ((nI_ltI (by omega) (by omega)).mpr q), show min a b = b by omega]
  · rw [if_neg (fun z => q ((nI_ltI (by omega) (by omega)).mp z)), show min a b = a by omega]
set_option maxHeartbeats 4000000 in
set_option maxRecDepth 100000 in
theorem C_dealL {X : List Int32} {d rc rs n : Nat} {Q : am_Q} {tx : List Value} {lk mv : Nat → Int32} {ik wc v1 : Int32} {K : Nat} (hK : K ≤ 8) : ∀ (m i f : Nat), i + m = K → f + m ≤ 8 → ∀ (N : Nat → Int32) (v4 v5 v6 : Option Value) (h : am_H), OB ik wc h → QR 1 N tx lk mv h → N 1 = nI f → (∀ w4 w5 w6 h9, QR 1 (dlN m f N) tx lk mv h9 → am_fp (fun k => k < 1 ∨ 13 ≤ k) h9 h → AW X mX7_deal (d + 12) rc rs 89 [some (.ref 0), some (.int v1), some (.int (nI K)), some (.int (nI K)), w4, w5, w6] [] n h9 Q) → AW X mX7_deal (d + 12) rc rs 30 [some (.ref 0), some (.int v1), some (.int (nI K)), some (.int (nI i)), v4, v5, v6] [] n h Q := by
  intro m
  induction m with
  | zero =>
    intro i f hi hf N v4 v5 v6 h O F hf1 hq
    obtain rfl : i = K := by omega
    refine aw_iload_n (npc := 31) rfl dX7_deal_30 rfl ?_
    refine aw_iload_n (npc := 32) rfl dX7_deal_31 rfl ?_
    exact aw_icmp_ge (npc := 35) (tgt := 89) dX7_deal_32 rfl (by decide) (fun _ => hq _ _ _ h F am_fp0) (fun hc => absurd (nI_le (Nat.le_refl _) (by omega)) hc)
  | succ m ih =>
    intro i f hi hf N v4 v5 v6 h O F hf1 hq
    refine aw_iload_n (npc := 31) rfl dX7_deal_30 rfl ?_
    refine aw_iload_n (npc := 32) rfl dX7_deal_31 rfl ?_
    refine aw_icmp_ge (npc := 35) (tgt := 89) dX7_deal_32 rfl (by decide) (fun hc => absurd hc (nI_ge (a := i) (b := K) (by omega) (by omega))) (fun _ => ?_)
    refine aw_aload_n (npc := 36) rfl dX7_deal_35 rfl ?_
    refine aw_get (npc := 39) dX7_deal_36 rfl kf_X7_10 O.1 rfl ?_
    refine aw_callV (npc := 42) (N := mX0_draw) (b := 1) (mc := 0) (ms := 0) (A := []) (S := []) (L0 := [some (.ref 1)]) dX7_deal_39 rfl km_X0_draw kk_X7_153 F.1 ⟨by decide, rfl⟩ rfl ⟨rfl, by decide⟩ rfl (Nat.le_of_ble_eq_true rfl) (Nat.zero_add _) (Nat.zero_add _) rfl ?_
    refine g_draw F (fun hp4 F2 fz3 => ?_)
    have O5 := ob_frame O (fz3 0 (by omega)) (fz3 43 (by omega)) (fz3 44 (by omega))
    refine aw_re (S' := [.int (drawV N)]) rfl ?_
    refine aw_bipush (npc := 44) (v := 6) (by decide) dX7_deal_42 rfl ?_
    refine aw_iremV (npc := 45) (v := remK (drawV N) 6) (by decide) dX7_deal_44 rfl (rfl) ?_
    refine aw_istore (npc := 47) (L' := [some (.ref 0), some (.int v1), some (.int (nI K)), some (.int (nI i)), some (.int (remK (drawV N) 6)), v5, v6]) dX7_deal_45 rfl (by decide) rfl rfl ?_
    refine aw_aload_n (npc := 48) rfl dX7_deal_47 rfl ?_
    refine aw_get (npc := 51) dX7_deal_48 rfl kf_X7_10 O5.1 rfl ?_
    refine aw_callV (npc := 54) (N := mX0_draw) (b := 1) (mc := 0) (ms := 0) (A := []) (S := []) (L0 := [some (.ref 1)]) dX7_deal_51 rfl km_X0_draw kk_X7_153 F2.1 ⟨by decide, rfl⟩ rfl ⟨rfl, by decide⟩ rfl (Nat.le_of_ble_eq_true rfl) (Nat.zero_add _) (Nat.zero_add _) rfl ?_
    refine g_draw F2 (fun hp8 F6 fz7 => ?_)
    have O9 := ob_frame O5 (fz7 0 (by omega)) (fz7 43 (by omega)) (fz7 44 (by omega))
    refine aw_re (S' := [.int (drawV (drawN N))]) rfl ?_
    refine aw_iconst (npc := 55) (v := 2) (by decide) dX7_deal_54 rfl ?_
    refine aw_iremV (npc := 56) (v := remK (drawV (drawN N)) 2) (by decide) dX7_deal_55 rfl (rfl) ?_
    refine aw_istore (npc := 58) (L' := [some (.ref 0), some (.int v1), some (.int (nI K)), some (.int (nI i)), some (.int (remK (drawV N) 6)), some (.int (remK (drawV (drawN N)) 2)), v6]) dX7_deal_56 rfl (by decide) rfl rfl ?_
    refine aw_aload_n (npc := 59) rfl dX7_deal_58 rfl ?_
    refine aw_get (npc := 62) dX7_deal_59 rfl kf_X7_10 O9.1 rfl ?_
    refine aw_callV (npc := 65) (N := mX0_draw) (b := 1) (mc := 0) (ms := 0) (A := []) (S := []) (L0 := [some (.ref 1)]) dX7_deal_62 rfl km_X0_draw kk_X7_153 F6.1 ⟨by decide, rfl⟩ rfl ⟨rfl, by decide⟩ rfl (Nat.le_of_ble_eq_true rfl) (Nat.zero_add _) (Nat.zero_add _) rfl ?_
    refine g_draw F6 (fun hp12 F10 fz11 => ?_)
    have O13 := ob_frame O9 (fz11 0 (by omega)) (fz11 43 (by omega)) (fz11 44 (by omega))
    refine aw_re (S' := [.int (drawV (drawN (drawN N)))]) rfl ?_
    refine aw_bipush (npc := 67) (v := 100) (by decide) dX7_deal_65 rfl ?_
    refine aw_iremV (npc := 68) (v := remK (drawV (drawN (drawN N))) 100) (by decide) dX7_deal_67 rfl (rfl) ?_
    refine aw_istore (npc := 70) (L' := [some (.ref 0), some (.int v1), some (.int (nI K)), some (.int (nI i)), some (.int (remK (drawV N) 6)), some (.int (remK (drawV (drawN N)) 2)), some (.int (remK (drawV (drawN (drawN N))) 100))]) dX7_deal_68 rfl (by decide) rfl rfl ?_
    refine aw_aload_n (npc := 71) rfl dX7_deal_70 rfl ?_
    refine aw_get (npc := 74) dX7_deal_71 rfl kf_X7_10 O13.1 rfl ?_
    refine aw_iload (npc := 76) rfl dX7_deal_74 rfl ?_
    refine aw_iload (npc := 78) rfl dX7_deal_76 rfl ?_
    refine aw_iload (npc := 80) rfl dX7_deal_78 rfl ?_
    refine aw_callV (npc := 83) (N := mX0_addFriend) (b := 1) (mc := 0) (ms := 0) (A := [.int (remK (drawV N) 6), .int (remK (drawV (drawN N)) 2), .int (remK (drawV (drawN (drawN N))) 100)]) (S := []) (L0 := [some (.ref 1), some (.int (remK (drawV N) 6)), some (.int (remK (drawV (drawN N)) 2)), some (.int (remK (drawV (drawN (drawN N))) 100))]) dX7_deal_80 rfl km_X0_addFriend kk_X7_83 F10.1 ⟨by decide, rfl⟩ rfl ⟨rfl, by decide⟩ rfl (Nat.le_of_ble_eq_true rfl) (Nat.zero_add _) (Nat.zero_add _) rfl ?_
    refine g_addFriend (f := f) F10 ((dr1 (by decide)).trans ((dr1 (by decide)).trans ((dr1 (by decide)).trans hf1))) (by omega) (fun hp16 F14 fz15 => ?_)
    have O17 := ob_frame O13 (fz15 0 (by omega)) (fz15 43 (by omega)) (fz15 44 (by omega))
    refine aw_iinc (npc := 86) (v := nI (i + 1)) (L' := [some (.ref 0), some (.int v1), some (.int (nI K)), some (.int (nI (i + 1))), some (.int (remK (drawV N) 6)), some (.int (remK (drawV (drawN N)) 2)), some (.int (remK (drawV (drawN (drawN N))) 100))]) dX7_deal_83 rfl rfl (nI_1 _) (by decide) rfl rfl ?_
    refine aw_goto (npc := 30) dX7_deal_86 (by decide) ?_
    exact ih (i + 1) (f + 1) (by omega) (by omega) _ _ _ _ _ O17 F14 dl1 (fun w4 w5 w6 h9 F9 fz => hq w4 w5 w6 h9 F9 (am_fpT fz (am_fpT (fun k (hk : k < 1 ∨ 13 ≤ k) => fz15 k (by omega)) (am_fpT (fun k (hk : k < 1 ∨ 13 ≤ k) => fz11 k (by omega)) (am_fpT (fun k (hk : k < 1 ∨ 13 ≤ k) => fz7 k (by omega)) (am_fpT (fun k (hk : k < 1 ∨ 13 ≤ k) => fz3 k (by omega)) am_fp0))))))
set_option maxHeartbeats 4000000 in
set_option maxRecDepth 100000 in
theorem C_deal {X : List Int32} {d rc rs n : Nat} {Q : am_Q} {h : am_H} {N : Nat → Int32} {tx : List Value} {lk mv : Nat → Int32} {ik wc : Int32} {fr c : Nat} {v : Int32} (O : OB ik wc h) (F : QR 1 N tx lk mv h) (hR : RG N fr c) (k1 : ¬ wi v 1 8 → Q (some (.int (-1000000001))) n h) (k0 : ∀ vn, wi v 1 8 → vn ≤ 8 → v = nI vn → ∀ h9, QR 1 (dlN (min vn (8 - fr)) fr N) tx lk mv h9 → am_fp (fun k => k < 1 ∨ 13 ≤ k) h9 h → Q (some (.int (nI (min vn (8 - fr))))) n h9) : AW X mX7_deal (d + 12) rc rs 0 [some (.ref 0), some (.int v), none, none, none, none, none] [] n h Q := by
  have h8r := hR.2.1
  have h14r := hR.2.2.2.1
  refine aw_iload_n (npc := 1) rfl dX7_deal_0 rfl ?_
  refine aw_iconst (npc := 2) (v := 1) (by decide) dX7_deal_1 rfl ?_
  refine aw_bipush (npc := 4) (v := 8) (by decide) dX7_deal_2 rfl ?_
  refine aw_callS (npc := 7) (N := mX7_within) (mc := 0) (ms := 0) (A := [.int v, .int 1, .int 8]) (S := []) (L0 := [some (.int v), some (.int 1), some (.int 8)]) dX7_deal_4 rfl km_X7_within kk_X7_74 rfl ⟨rfl, by decide⟩ rfl (Nat.le_of_ble_eq_true rfl) (Nat.zero_add _) (Nat.zero_add _) rfl ?_
  refine c_X7_within (fun hw1 => ?_) (fun hw1 => ?_)
  · obtain ⟨vn, hvn, evn⟩ := wi_nI (H := 8) (by decide) (by decide) hw1
    subst evn
    have fvn : fN (nI vn) = vn := fN_nI (by omega)
    refine aw_re (S' := [.int 1]) rfl ?_
    refine aw_if_ne (npc := 10) (tgt := 13) dX7_deal_7 rfl (by decide) (fun _ => ?_) (fun hc => absurd hc (by decide))
    refine aw_iload_n (npc := 14) rfl dX7_deal_13 rfl ?_
    refine aw_bipush (npc := 16) (v := 8) (by decide) dX7_deal_14 rfl ?_
    refine aw_aload_n (npc := 17) rfl dX7_deal_16 rfl ?_
    refine aw_get (npc := 20) dX7_deal_17 rfl kf_X7_10 O.1 rfl ?_
    refine aw_get (npc := 23) dX7_deal_20 rfl kf_X7_79 F.1 rfl ?_
    refine aw_top (y := nI fr) (hR.1) ?_
    refine aw_isubV (npc := 24) (v := nI (8 - fr)) dX7_deal_23 rfl (pk_sub (a := 8) (by omega)) ?_
    refine aw_mmin (npc := 27) dX7_deal_24 rfl kmm_X7_148 kmx_min (Nat.le_of_ble_eq_true rfl) ?_
    refine aw_top (y := nI (min vn (8 - fr))) (min_nI (by omega) (by omega)) ?_
    refine aw_istore_n (npc := 28) (L' := [some (.ref 0), some (.int (nI vn)), some (.int (nI (min vn (8 - fr)))), none, none, none, none]) dX7_deal_27 rfl (by decide) rfl rfl ?_
    refine aw_iconst (npc := 29) (v := 0) (by decide) dX7_deal_28 rfl ?_
    refine aw_istore_n (npc := 30) (L' := [some (.ref 0), some (.int (nI vn)), some (.int (nI (min vn (8 - fr)))), some (.int 0), none, none, none]) dX7_deal_29 rfl (by decide) rfl rfl ?_
    refine aw_locs (L' := [some (.ref 0), some (.int (nI vn)), some (.int (nI (min vn (8 - fr)))), some (.int (nI 0)), none, none, none]) rfl ?_
    refine C_dealL (by omega) (min vn (8 - fr)) 0 fr (by omega) (by omega) N none none none h O F hR.1 (fun w4 w5 w6 h9 F9 f9 => ?_)
    refine aw_iload_n (npc := 90) rfl dX7_deal_89 rfl ?_
    refine aw_iret rfl dX7_deal_90 ?_
    exact k0 vn hw1 hvn rfl _ F9 f9
  · refine aw_re (S' := [.int 0]) rfl ?_
    refine aw_if_ne (npc := 10) (tgt := 13) dX7_deal_7 rfl (by decide) (fun hc => absurd (by decide) hc) (fun _ => ?_)
    refine aw_ldc (npc := 12) kc_X7_78 dX7_deal_10 rfl ?_
    refine aw_iret rfl dX7_deal_12 ?_
    exact k1 hw1
set_option maxHeartbeats 4000000 in
set_option maxRecDepth 100000 in
theorem M_dealL {X : List Int32} {d rc rs n : Nat} {Q : am_Q} {o : Nat → Int32} {a : Nat → Nat → Int32} {K J : Nat} (hK : K ≤ 8) : ∀ (m i f : Nat), i + m = J → f + m ≤ 8 → (J = K ∨ (J < K ∧ f + m = 8)) → ∀ (N : Nat → Int32) (v3 v4 v5 : Option Value) (h : am_H), MR o N a h → N 1 = nI f → (∀ w3 w4 w5 h9, MR o (dlN m f N) a h9 → am_fp (fun k => k < 69 ∨ 92 ≤ k) h9 h → AW X mX8_deal (d + 12) rc rs 69 [some (.ref 69), some (.int (nI K)), some (.int (nI J)), w3, w4, w5] [] n h9 Q) → AW X mX8_deal (d + 12) rc rs 15 [some (.ref 69), some (.int (nI K)), some (.int (nI i)), v3, v4, v5] [] n h Q := by
  intro m
  induction m with
  | zero =>
    intro i f hi hf hJ N v3 v4 v5 h F hf1 hq
    obtain rfl : i = J := by omega
    refine aw_iload_n (npc := 16) rfl dX8_deal_15 rfl ?_
    refine aw_iload_n (npc := 17) rfl dX8_deal_16 rfl ?_
    refine aw_icmp_ge (npc := 20) (tgt := 69) dX8_deal_17 rfl (by decide) (fun hc1 => ?_) (fun hc1 => ?_)
    · have hc1N := (nI_leI (a := K) (b := i) (by omega) (by omega)).mp hc1
      exact hq _ _ _ h F am_fp0
    · have hc1N : ¬ K ≤ i := fun z9q => hc1 ((nI_leI (a := K) (b := i) (by omega) (by omega)).mpr z9q)
      refine aw_aload_n (npc := 21) rfl dX8_deal_20 rfl ?_
      refine aw_get (npc := 24) dX8_deal_21 rfl kf_X8_9 F.1 rfl ?_
      refine aw_iconst (npc := 25) (v := 1) (by decide) dX8_deal_24 rfl ?_
      refine aw_iald (npc := 26) (x := N 1) (j := 1) dX8_deal_25 rfl F.2.1 ⟨by decide, by decide⟩ (tl_at (by omega)) ?_
      refine aw_top (y := nI f) (hf1) ?_
      refine aw_bipush (npc := 28) (v := 8) (by decide) dX8_deal_26 rfl ?_
      refine aw_icmp_ge (npc := 31) (tgt := 69) dX8_deal_28 rfl (by decide) (fun _ => ?_) (fun hc => absurd (nI_le (a := 8) (b := f) (by omega) (by omega)) hc)
      exact hq _ _ _ h F am_fp0
  | succ m ih =>
    intro i f hi hf hJ N v3 v4 v5 h F hf1 hq
    refine aw_iload_n (npc := 16) rfl dX8_deal_15 rfl ?_
    refine aw_iload_n (npc := 17) rfl dX8_deal_16 rfl ?_
    refine aw_icmp_ge (npc := 20) (tgt := 69) dX8_deal_17 rfl (by decide) (fun hc => absurd hc (nI_ge (a := i) (b := K) (by omega) (by omega))) (fun _ => ?_)
    refine aw_aload_n (npc := 21) rfl dX8_deal_20 rfl ?_
    refine aw_get (npc := 24) dX8_deal_21 rfl kf_X8_9 F.1 rfl ?_
    refine aw_iconst (npc := 25) (v := 1) (by decide) dX8_deal_24 rfl ?_
    refine aw_iald (npc := 26) (x := N 1) (j := 1) dX8_deal_25 rfl F.2.1 ⟨by decide, by decide⟩ (tl_at (by omega)) ?_
    refine aw_top (y := nI f) (hf1) ?_
    refine aw_bipush (npc := 28) (v := 8) (by decide) dX8_deal_26 rfl ?_
    refine aw_icmp_ge (npc := 31) (tgt := 69) dX8_deal_28 rfl (by decide) (fun hc => absurd hc (nI_ge (a := f) (b := 8) (by omega) (by omega))) (fun _ => ?_)
    refine aw_aload_n (npc := 32) rfl dX8_deal_31 rfl ?_
    refine aw_callV (npc := 35) (N := mX8_draw) (b := 69) (mc := 0) (ms := 0) (A := []) (S := []) (L0 := [some (.ref 69)]) dX8_deal_32 rfl km_X8_draw kk_X8_139 F.1 ⟨by decide, rfl⟩ rfl ⟨rfl, by decide⟩ rfl (Nat.le_of_ble_eq_true rfl) (Nat.zero_add _) (Nat.zero_add _) rfl ?_
    refine m_draw F (fun hp5 F3 fz4 => ?_)
    refine aw_re (S' := [.int (drawV N)]) rfl ?_
    refine aw_bipush (npc := 37) (v := 6) (by decide) dX8_deal_35 rfl ?_
    refine aw_iremV (npc := 38) (v := remK (drawV N) 6) (by decide) dX8_deal_37 rfl (rfl) ?_
    refine aw_istore_n (npc := 39) (L' := [some (.ref 69), some (.int (nI K)), some (.int (nI i)), some (.int (remK (drawV N) 6)), v4, v5]) dX8_deal_38 rfl (by decide) rfl rfl ?_
    refine aw_aload_n (npc := 40) rfl dX8_deal_39 rfl ?_
    refine aw_callV (npc := 43) (N := mX8_draw) (b := 69) (mc := 0) (ms := 0) (A := []) (S := []) (L0 := [some (.ref 69)]) dX8_deal_40 rfl km_X8_draw kk_X8_139 F3.1 ⟨by decide, rfl⟩ rfl ⟨rfl, by decide⟩ rfl (Nat.le_of_ble_eq_true rfl) (Nat.zero_add _) (Nat.zero_add _) rfl ?_
    refine m_draw F3 (fun hp8 F6 fz7 => ?_)
    refine aw_re (S' := [.int (drawV (drawN N))]) rfl ?_
    refine aw_iconst (npc := 44) (v := 2) (by decide) dX8_deal_43 rfl ?_
    refine aw_iremV (npc := 45) (v := remK (drawV (drawN N)) 2) (by decide) dX8_deal_44 rfl (rfl) ?_
    refine aw_istore (npc := 47) (L' := [some (.ref 69), some (.int (nI K)), some (.int (nI i)), some (.int (remK (drawV N) 6)), some (.int (remK (drawV (drawN N)) 2)), v5]) dX8_deal_45 rfl (by decide) rfl rfl ?_
    refine aw_aload_n (npc := 48) rfl dX8_deal_47 rfl ?_
    refine aw_iload_n (npc := 49) rfl dX8_deal_48 rfl ?_
    refine aw_iload (npc := 51) rfl dX8_deal_49 rfl ?_
    refine aw_aload_n (npc := 52) rfl dX8_deal_51 rfl ?_
    refine aw_callV (npc := 55) (N := mX8_draw) (b := 69) (mc := 0) (ms := 0) (A := []) (S := [.int (remK (drawV (drawN N)) 2), .int (remK (drawV N) 6), .ref 69]) (L0 := [some (.ref 69)]) dX8_deal_52 rfl km_X8_draw kk_X8_139 F6.1 ⟨by decide, rfl⟩ rfl ⟨rfl, by decide⟩ rfl (Nat.le_of_ble_eq_true rfl) (Nat.zero_add _) (Nat.zero_add _) rfl ?_
    refine m_draw F6 (fun hp11 F9 fz10 => ?_)
    refine aw_re (S' := [.int (drawV (drawN (drawN N))), .int (remK (drawV (drawN N)) 2), .int (remK (drawV N) 6), .ref 69]) rfl ?_
    refine aw_bipush (npc := 57) (v := 100) (by decide) dX8_deal_55 rfl ?_
    refine aw_iremV (npc := 58) (v := remK (drawV (drawN (drawN N))) 100) (by decide) dX8_deal_57 rfl (rfl) ?_
    refine aw_callV (npc := 61) (N := mX8_comes) (b := 69) (mc := 0) (ms := 0) (A := [.int (remK (drawV N) 6), .int (remK (drawV (drawN N)) 2), .int (remK (drawV (drawN (drawN N))) 100)]) (S := []) (L0 := [some (.ref 69), some (.int (remK (drawV N) 6)), some (.int (remK (drawV (drawN N)) 2)), some (.int (remK (drawV (drawN (drawN N))) 100)), none]) dX8_deal_58 rfl km_X8_comes kk_X8_93 F9.1 ⟨by decide, rfl⟩ rfl ⟨rfl, by decide⟩ rfl (Nat.le_of_ble_eq_true rfl) (Nat.zero_add _) (Nat.zero_add _) rfl ?_
    refine m_comes (f := f) F9 ((dr1 (by decide)).trans ((dr1 (by decide)).trans ((dr1 (by decide)).trans hf1))) (by omega) (fun hp14 F12 fz13 => ?_)
    refine aw_re (S' := [.int (nI f)]) rfl ?_
    refine aw_istore (npc := 63) (L' := [some (.ref 69), some (.int (nI K)), some (.int (nI i)), some (.int (remK (drawV N) 6)), some (.int (remK (drawV (drawN N)) 2)), some (.int (nI f))]) dX8_deal_61 rfl (by decide) rfl rfl ?_
    refine aw_iinc (npc := 66) (v := nI (i + 1)) (L' := [some (.ref 69), some (.int (nI K)), some (.int (nI (i + 1))), some (.int (remK (drawV N) 6)), some (.int (remK (drawV (drawN N)) 2)), some (.int (nI f))]) dX8_deal_63 rfl rfl (nI_1 _) (by decide) rfl rfl ?_
    refine aw_goto (npc := 15) dX8_deal_66 (by decide) ?_
    exact ih (i + 1) (f + 1) (by omega) (by omega) (by omega) _ _ _ _ _ F12 dl1 (fun w3 w4 w5 h9 F9 fz => hq w3 w4 w5 h9 F9 (am_fpT fz (am_fpT (fun k (hk : k < 69 ∨ 92 ≤ k) => fz13 k (by omega)) (am_fpT (fun k (hk : k < 69 ∨ 92 ≤ k) => fz10 k (by omega)) (am_fpT (fun k (hk : k < 69 ∨ 92 ≤ k) => fz7 k (by omega)) (am_fpT (fun k (hk : k < 69 ∨ 92 ≤ k) => fz4 k (by omega)) am_fp0))))))
set_option maxHeartbeats 4000000 in
set_option maxRecDepth 100000 in
theorem M_deal {X : List Int32} {d rc rs n : Nat} {Q : am_Q} {h : am_H} {o N : Nat → Int32} {a : Nat → Nat → Int32} {fr c : Nat} {v : Int32} (F : MR o N a h) (hR : RG N fr c) (k1 : ¬ wi v 1 8 → Q (some (.int (-1000000001))) n h) (k0 : ∀ vn, wi v 1 8 → vn ≤ 8 → v = nI vn → ∀ h9, MR o (dlN (min vn (8 - fr)) fr N) a h9 → am_fp (fun k => k < 69 ∨ 92 ≤ k) h9 h → Q (some (.int (nI (min vn (8 - fr))))) n h9) : AW X mX8_deal (d + 12) rc rs 0 [some (.ref 69), some (.int v), none, none, none, none] [] n h Q := by
  have h8r := hR.2.1
  have h14r := hR.2.2.2.1
  refine aw_iload_n (npc := 1) rfl dX8_deal_0 rfl ?_
  refine aw_iconst (npc := 2) (v := 1) (by decide) dX8_deal_1 rfl ?_
  refine aw_bipush (npc := 4) (v := 8) (by decide) dX8_deal_2 rfl ?_
  refine aw_callS (npc := 7) (N := mX8_in) (mc := 0) (ms := 0) (A := [.int v, .int 1, .int 8]) (S := []) (L0 := [some (.int v), some (.int 1), some (.int 8)]) dX8_deal_4 rfl km_X8_in kk_X8_83 rfl ⟨rfl, by decide⟩ rfl (Nat.le_of_ble_eq_true rfl) (Nat.zero_add _) (Nat.zero_add _) rfl ?_
  refine c_X8_in (fun hw1 => ?_) (fun hw1 => ?_)
  · obtain ⟨vn, hvn, evn⟩ := wi_nI (H := 8) (by decide) (by decide) hw1
    subst evn
    have fvn : fN (nI vn) = vn := fN_nI (by omega)
    refine aw_re (S' := [.int 1]) rfl ?_
    refine aw_if_ne (npc := 10) (tgt := 13) dX8_deal_7 rfl (by decide) (fun _ => ?_) (fun hc => absurd hc (by decide))
    refine aw_iconst (npc := 14) (v := 0) (by decide) dX8_deal_13 rfl ?_
    refine aw_istore_n (npc := 15) (L' := [some (.ref 69), some (.int (nI vn)), some (.int 0), none, none, none]) dX8_deal_14 rfl (by decide) rfl rfl ?_
    refine aw_locs (L' := [some (.ref 69), some (.int (nI vn)), some (.int (nI 0)), none, none, none]) rfl ?_
    refine M_dealL (J := min vn (8 - fr)) (by omega) (min vn (8 - fr)) 0 fr (by omega) (by omega) (by omega) N none none none h F hR.1 (fun w3 w4 w5 h9 F9 f9 => ?_)
    refine aw_iload_n (npc := 70) rfl dX8_deal_69 rfl ?_
    refine aw_iret rfl dX8_deal_70 ?_
    exact k0 vn hw1 hvn rfl _ F9 f9
  · refine aw_re (S' := [.int 0]) rfl ?_
    refine aw_if_ne (npc := 10) (tgt := 13) dX8_deal_7 rfl (by decide) (fun hc => absurd (by decide) hc) (fun _ => ?_)
    refine aw_ldc (npc := 12) kc_X8_91 dX8_deal_10 rfl ?_
    refine aw_iret rfl dX8_deal_12 ?_
    exact k1 hw1
