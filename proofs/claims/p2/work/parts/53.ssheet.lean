noncomputable def whC (lk : Nat → Int32) (k : Int32) : Int32 := cI (wi k 0 2) (orN (lk (fN k))) (-1000000001)
noncomputable def whM (N : Nat → Int32) (c : Nat) (k : Int32) : Int32 := cI (wi k 0 2) (orN (bI (cntM k N c))) (-1000000001)
set_option maxHeartbeats 4000000 in
set_option maxRecDepth 100000 in
theorem C_why {X : List Int32} {d rc rs n : Nat} {Q : am_Q} {h : am_H} {N : Nat → Int32} {tx : List Value} {lk mv : Nat → Int32} {ik wc : Int32} {fr c : Nat} {k : Int32} (O : OB ik wc h) (F : QR 1 N tx lk mv h) (hq : Q (some (.int (whC lk k))) n h) : AW X mX7_why (d + 12) rc rs 0 [some (.ref 0), some (.int k)] [] n h Q := by
  refine aw_iload_n (npc := 1) rfl dX7_why_0 rfl ?_
  refine aw_iconst (npc := 2) (v := 0) (by decide) dX7_why_1 rfl ?_
  refine aw_iconst (npc := 3) (v := 2) (by decide) dX7_why_2 rfl ?_
  refine aw_callS (npc := 6) (N := mX7_within) (mc := 0) (ms := 0) (A := [.int k, .int 0, .int 2]) (S := []) (L0 := [some (.int k), some (.int 0), some (.int 2)]) dX7_why_3 rfl km_X7_within kk_X7_74 rfl ⟨rfl, by decide⟩ rfl (Nat.le_of_ble_eq_true rfl) (Nat.zero_add _) (Nat.zero_add _) rfl ?_
  refine c_X7_within (fun hw1 => ?_) (fun hw1 => ?_)
  · obtain ⟨kn, hkn, ekn⟩ := wi_nI (H := 2) (by decide) (by decide) hw1
    subst ekn
    have fkn : fN (nI kn) = kn := fN_nI (by omega)
    refine aw_re (S' := [.int 1]) rfl ?_
    refine aw_if_ne (npc := 9) (tgt := 12) dX7_why_6 rfl (by decide) (fun _ => ?_) (fun hc => absurd hc (by decide))
    refine aw_aload_n (npc := 13) rfl dX7_why_12 rfl ?_
    refine aw_get (npc := 16) dX7_why_13 rfl kf_X7_10 O.1 rfl ?_
    refine aw_get (npc := 19) dX7_why_16 rfl kf_X7_267 F.1 rfl ?_
    refine aw_iload_n (npc := 20) rfl dX7_why_19 rfl ?_
    refine aw_iald (npc := 21) (x := lk kn) (j := kn) dX7_why_20 rfl F.2.2.2.2.2.2.2.2.2.2.1 (am_ix_nI (by omega)) (tl_at (by omega)) ?_
    refine aw_callS (npc := 24) (N := mX7_orNone) (mc := 0) (ms := 0) (A := [.int (lk kn)]) (S := []) (L0 := [some (.int (lk kn))]) dX7_why_21 rfl km_X7_orNone kk_X7_112 rfl ⟨rfl, by decide⟩ rfl (Nat.le_of_ble_eq_true rfl) (Nat.zero_add _) (Nat.zero_add _) rfl ?_
    refine c_X7_orNone ?_
    refine aw_re (S' := [.int (orN (lk kn))]) rfl ?_
    refine aw_iret rfl dX7_why_24 ?_
    exact (show whC lk (nI kn) = (orN (lk kn)) by simp [whC, cI, hw1, fkn]) ▸ hq
  · refine aw_re (S' := [.int 0]) rfl ?_
    refine aw_if_ne (npc := 9) (tgt := 12) dX7_why_6 rfl (by decide) (fun hc => absurd (by decide) hc) (fun _ => ?_)
    refine aw_ldc (npc := 11) kc_X7_78 dX7_why_9 rfl ?_
    refine aw_iret rfl dX7_why_11 ?_
    exact (show whC lk k = (-1000000001) by simp [whC, cI, hw1]) ▸ hq
set_option maxHeartbeats 4000000 in
set_option maxRecDepth 100000 in
theorem M_why {X : List Int32} {d rc rs n : Nat} {Q : am_Q} {h : am_H} {o N : Nat → Int32} {a : Nat → Nat → Int32} {fr c : Nat} {k : Int32} (F : MR o N a h) (hR : RG N fr c) (hq : Q (some (.int (whM N c k))) n h) : AW X mX8_why (d + 12) rc rs 0 [some (.ref 69), some (.int k), none] [] n h Q := by
  have h8r := hR.2.1
  have h14r := hR.2.2.2.1
  refine aw_iload_n (npc := 1) rfl dX8_why_0 rfl ?_
  refine aw_iconst (npc := 2) (v := 0) (by decide) dX8_why_1 rfl ?_
  refine aw_iconst (npc := 3) (v := 2) (by decide) dX8_why_2 rfl ?_
  refine aw_callS (npc := 6) (N := mX8_in) (mc := 0) (ms := 0) (A := [.int k, .int 0, .int 2]) (S := []) (L0 := [some (.int k), some (.int 0), some (.int 2)]) dX8_why_3 rfl km_X8_in kk_X8_83 rfl ⟨rfl, by decide⟩ rfl (Nat.le_of_ble_eq_true rfl) (Nat.zero_add _) (Nat.zero_add _) rfl ?_
  refine c_X8_in (fun hw1 => ?_) (fun hw1 => ?_)
  · refine aw_re (S' := [.int 1]) rfl ?_
    refine aw_if_ne (npc := 9) (tgt := 12) dX8_why_6 rfl (by decide) (fun _ => ?_) (fun hc => absurd hc (by decide))
    refine aw_aload_n (npc := 13) rfl dX8_why_12 rfl ?_
    refine aw_iload_n (npc := 14) rfl dX8_why_13 rfl ?_
    refine aw_callV (npc := 17) (N := mX8_counts) (b := 69) (mc := 0) (ms := 0) (A := [.int k]) (S := []) (L0 := [some (.ref 69), some (.int k), none]) dX8_why_14 rfl km_X8_counts kk_X8_97 F.1 ⟨by decide, rfl⟩ rfl ⟨rfl, by decide⟩ rfl (Nat.le_of_ble_eq_true rfl) (Nat.zero_add _) (Nat.zero_add _) rfl ?_
    refine m_counts (key := k) (c := c) F hR.2.2.1 h14r ?_
    refine aw_re (S' := [.int (bI (cntM k N c))]) rfl ?_
    refine aw_istore_n (npc := 18) (L' := [some (.ref 69), some (.int k), some (.int (bI (cntM k N c)))]) dX8_why_17 rfl (by decide) rfl rfl ?_
    refine aw_iload_n (npc := 19) rfl dX8_why_18 rfl ?_
    refine aw_if_ge (npc := 22) (tgt := 27) dX8_why_19 rfl (by decide) (fun hc2 => ?_) (fun hc2 => ?_)
    · refine aw_iload_n (npc := 28) rfl dX8_why_27 rfl ?_
      refine aw_iret rfl dX8_why_28 ?_
      exact (show whM N c k = (bI (cntM k N c)) by simp [whM, orN, cI, hw1, Int32.not_lt.mpr hc2]) ▸ hq
    · refine aw_ldc (npc := 24) kc_X8_82 dX8_why_22 rfl ?_
      refine aw_goto (npc := 28) dX8_why_24 (by decide) ?_
      refine aw_iret rfl dX8_why_28 ?_
      exact (show whM N c k = (-1000000005) by simp [whM, orN, cI, hw1, Int32.not_le.mp hc2]) ▸ hq
  · refine aw_re (S' := [.int 0]) rfl ?_
    refine aw_if_ne (npc := 9) (tgt := 12) dX8_why_6 rfl (by decide) (fun hc => absurd (by decide) hc) (fun _ => ?_)
    refine aw_ldc (npc := 11) kc_X8_91 dX8_why_9 rfl ?_
    refine aw_iret rfl dX8_why_11 ?_
    exact (show whM N c k = (-1000000001) by simp [whM, orN, cI, hw1]) ▸ hq
noncomputable def ttM (N : Nat → Int32) (t w : Int32) : Int32 := cI (wi t 0 (N 7 - 1) ∧ wi w 0 1) (cI (w = 0) (N (62 + 2 * fN t) / 1000) (N (63 + 2 * fN t))) (-1000000001)
set_option maxHeartbeats 4000000 in
set_option maxRecDepth 100000 in
theorem C_textTold {X : List Int32} {d rc rs n : Nat} {Q : am_Q} {h : am_H} {N : Nat → Int32} {tx : List Value} {lk mv : Nat → Int32} {ik wc : Int32} {fr c : Nat} {t : Int32} {w : Int32} {tb : TB} (O : OB ik wc h) (F : QR 1 N tx lk mv h) (G : TT tb h) (hR : RG N fr c) (hv : TXv tb.1 c tx) (hq : ∀ v9, ((¬ (wi t 0 (N 7 - 1) ∧ wi w 0 1) ∧ v9 = (-1000000001)) ∨ (∃ j a, wi t 0 (N 7 - 1) ∧ wi w 0 1 ∧ t = nI j ∧ j < c ∧ a < tb.1 ∧ tx[j]? = some (.ref (92 + 3 * a)) ∧ v9 = cI (w = 0) (tb.2.1 a) (tb.2.2.1 a))) → Q (some (.int v9)) n h) : AW X mX7_textTold (d + 12) rc rs 0 [some (.ref 0), some (.int t), some (.int w), none] [] n h Q := by
  have h8r := hR.2.1
  have h14r := hR.2.2.2.1
  refine aw_iload_n (npc := 1) rfl dX7_textTold_0 rfl ?_
  refine aw_iconst (npc := 2) (v := 0) (by decide) dX7_textTold_1 rfl ?_
  refine aw_aload_n (npc := 3) rfl dX7_textTold_2 rfl ?_
  refine aw_get (npc := 6) dX7_textTold_3 rfl kf_X7_10 O.1 rfl ?_
  refine aw_get (npc := 9) dX7_textTold_6 rfl kf_X7_246 F.1 rfl ?_
  refine aw_iconst (npc := 10) (v := 1) (by decide) dX7_textTold_9 rfl ?_
  refine aw_isub (npc := 11) dX7_textTold_10 rfl ?_
  refine aw_callS (npc := 14) (N := mX7_within) (mc := 0) (ms := 0) (A := [.int t, .int 0, .int ((N 7) - 1)]) (S := []) (L0 := [some (.int t), some (.int 0), some (.int ((N 7) - 1))]) dX7_textTold_11 rfl km_X7_within kk_X7_74 rfl ⟨rfl, by decide⟩ rfl (Nat.le_of_ble_eq_true rfl) (Nat.zero_add _) (Nat.zero_add _) rfl ?_
  refine c_X7_within (fun hw1 => ?_) (fun hw1 => ?_)
  · obtain ⟨tn, htn, etn⟩ := wi_idx hR.2.2.1 (by omega) hw1
    subst etn
    have ftn : fN (nI tn) = tn := fN_nI (by omega)
    refine aw_re (S' := [.int 1]) rfl ?_
    refine aw_if_eq (npc := 17) (tgt := 26) dX7_textTold_14 rfl (by decide) (fun hc => absurd hc (by decide)) (fun _ => ?_)
    refine aw_iload_n (npc := 18) rfl dX7_textTold_17 rfl ?_
    refine aw_iconst (npc := 19) (v := 0) (by decide) dX7_textTold_18 rfl ?_
    refine aw_iconst (npc := 20) (v := 1) (by decide) dX7_textTold_19 rfl ?_
    refine aw_callS (npc := 23) (N := mX7_within) (mc := 0) (ms := 0) (A := [.int w, .int 0, .int 1]) (S := []) (L0 := [some (.int w), some (.int 0), some (.int 1)]) dX7_textTold_20 rfl km_X7_within kk_X7_74 rfl ⟨rfl, by decide⟩ rfl (Nat.le_of_ble_eq_true rfl) (Nat.zero_add _) (Nat.zero_add _) rfl ?_
    refine c_X7_within (fun hw2 => ?_) (fun hw2 => ?_)
    · refine aw_re (S' := [.int 1]) rfl ?_
      refine aw_if_ne (npc := 26) (tgt := 29) dX7_textTold_23 rfl (by decide) (fun _ => ?_) (fun hc => absurd hc (by decide))
      refine aw_aload_n (npc := 30) rfl dX7_textTold_29 rfl ?_
      refine aw_get (npc := 33) dX7_textTold_30 rfl kf_X7_10 O.1 rfl ?_
      refine aw_get (npc := 36) dX7_textTold_33 rfl kf_X7_257 F.1 rfl ?_
      refine aw_iload_n (npc := 37) rfl dX7_textTold_36 rfl ?_
      obtain ⟨a, ha, hta⟩ := hv.2.2.2 tn htn
      refine aw_aald (npc := 38) (j := tn) dX7_textTold_37 rfl (by decide) F.2.2.2.2.2.2.2.2.2.1 (am_ix_nI (by omega)) hta ?_
      refine aw_astore_n (npc := 39) (L' := [some (.ref 0), some (.int (nI tn)), some (.int w), some (.ref (92 + 3 * a))]) dX7_textTold_38 rfl (by decide) rfl rfl ?_
      refine aw_aload_n (npc := 40) rfl dX7_textTold_39 rfl ?_
      refine aw_ifnonnull (npc := 46) dX7_textTold_40 (by decide) ?_
      refine aw_iload_n (npc := 47) rfl dX7_textTold_46 rfl ?_
      refine aw_if_ne (npc := 50) (tgt := 57) dX7_textTold_47 rfl (by decide) (fun hc3 => ?_) (fun hc3 => ?_)
      · refine aw_aload_n (npc := 58) rfl dX7_textTold_57 rfl ?_
        refine aw_get (npc := 61) dX7_textTold_58 rfl kf_X7_264 (G a ha).1 rfl ?_
        refine aw_iret rfl dX7_textTold_61 ?_
        exact hq _ (Or.inr ⟨tn, a, hw1, by first | exact hw2 | (unfold wi; decide), rfl, htn, ha, hta, by simp [cI, hw1, hw2, hc3, ftn]⟩)
      · refine aw_aload_n (npc := 51) rfl dX7_textTold_50 rfl ?_
        refine aw_get (npc := 54) dX7_textTold_51 rfl kf_X7_261 (G a ha).1 rfl ?_
        refine aw_goto (npc := 61) dX7_textTold_54 (by decide) ?_
        refine aw_iret rfl dX7_textTold_61 ?_
        exact hq _ (Or.inr ⟨tn, a, hw1, by first | exact hw2 | (unfold wi; decide), rfl, htn, ha, hta, by simp [cI, hw1, hw2, hc3, ftn]⟩)
    · refine aw_re (S' := [.int 0]) rfl ?_
      refine aw_if_ne (npc := 26) (tgt := 29) dX7_textTold_23 rfl (by decide) (fun hc => absurd (by decide) hc) (fun _ => ?_)
      refine aw_ldc (npc := 28) kc_X7_78 dX7_textTold_26 rfl ?_
      refine aw_iret rfl dX7_textTold_28 ?_
      exact hq _ (Or.inl ⟨by simp [hw1, hw2, ftn], rfl⟩)
  · refine aw_re (S' := [.int 0]) rfl ?_
    refine aw_if_eq (npc := 17) (tgt := 26) dX7_textTold_14 rfl (by decide) (fun _ => ?_) (fun hc => absurd (by decide) hc)
    refine aw_ldc (npc := 28) kc_X7_78 dX7_textTold_26 rfl ?_
    refine aw_iret rfl dX7_textTold_28 ?_
    exact hq _ (Or.inl ⟨by simp [hw1], rfl⟩)
set_option maxHeartbeats 4000000 in
set_option maxRecDepth 100000 in
theorem M_textTold {X : List Int32} {d rc rs n : Nat} {Q : am_Q} {h : am_H} {o N : Nat → Int32} {a : Nat → Nat → Int32} {fr c : Nat} {t : Int32} {w : Int32} (F : MR o N a h) (hR : RG N fr c) (hq : Q (some (.int (ttM N t w))) n h) : AW X mX8_textTold (d + 12) rc rs 0 [some (.ref 69), some (.int t), some (.int w)] [] n h Q := by
  have h8r := hR.2.1
  have h14r := hR.2.2.2.1
  refine aw_iload_n (npc := 1) rfl dX8_textTold_0 rfl ?_
  refine aw_iconst (npc := 2) (v := 0) (by decide) dX8_textTold_1 rfl ?_
  refine aw_aload_n (npc := 3) rfl dX8_textTold_2 rfl ?_
  refine aw_get (npc := 6) dX8_textTold_3 rfl kf_X8_9 F.1 rfl ?_
  refine aw_bipush (npc := 8) (v := 7) (by decide) dX8_textTold_6 rfl ?_
  refine aw_iald (npc := 9) (x := N 7) (j := 7) dX8_textTold_8 rfl F.2.1 ⟨by decide, by decide⟩ (tl_at (by omega)) ?_
  refine aw_iconst (npc := 10) (v := 1) (by decide) dX8_textTold_9 rfl ?_
  refine aw_isub (npc := 11) dX8_textTold_10 rfl ?_
  refine aw_callS (npc := 14) (N := mX8_in) (mc := 0) (ms := 0) (A := [.int t, .int 0, .int ((N 7) - 1)]) (S := []) (L0 := [some (.int t), some (.int 0), some (.int ((N 7) - 1))]) dX8_textTold_11 rfl km_X8_in kk_X8_83 rfl ⟨rfl, by decide⟩ rfl (Nat.le_of_ble_eq_true rfl) (Nat.zero_add _) (Nat.zero_add _) rfl ?_
  refine c_X8_in (fun hw1 => ?_) (fun hw1 => ?_)
  · obtain ⟨tn, htn, etn⟩ := wi_idx hR.2.2.1 (by omega) hw1
    subst etn
    have ftn : fN (nI tn) = tn := fN_nI (by omega)
    refine aw_re (S' := [.int 1]) rfl ?_
    refine aw_if_eq (npc := 17) (tgt := 26) dX8_textTold_14 rfl (by decide) (fun hc => absurd hc (by decide)) (fun _ => ?_)
    refine aw_iload_n (npc := 18) rfl dX8_textTold_17 rfl ?_
    refine aw_iconst (npc := 19) (v := 0) (by decide) dX8_textTold_18 rfl ?_
    refine aw_iconst (npc := 20) (v := 1) (by decide) dX8_textTold_19 rfl ?_
    refine aw_callS (npc := 23) (N := mX8_in) (mc := 0) (ms := 0) (A := [.int w, .int 0, .int 1]) (S := []) (L0 := [some (.int w), some (.int 0), some (.int 1)]) dX8_textTold_20 rfl km_X8_in kk_X8_83 rfl ⟨rfl, by decide⟩ rfl (Nat.le_of_ble_eq_true rfl) (Nat.zero_add _) (Nat.zero_add _) rfl ?_
    refine c_X8_in (fun hw2 => ?_) (fun hw2 => ?_)
    · refine aw_re (S' := [.int 1]) rfl ?_
      refine aw_if_ne (npc := 26) (tgt := 29) dX8_textTold_23 rfl (by decide) (fun _ => ?_) (fun hc => absurd hc (by decide))
      refine aw_iload_n (npc := 30) rfl dX8_textTold_29 rfl ?_
      refine aw_if_ne (npc := 33) (tgt := 51) dX8_textTold_30 rfl (by decide) (fun hc3 => ?_) (fun hc3 => ?_)
      · refine aw_aload_n (npc := 52) rfl dX8_textTold_51 rfl ?_
        refine aw_get (npc := 55) dX8_textTold_52 rfl kf_X8_9 F.1 rfl ?_
        refine aw_bipush (npc := 57) (v := 62) (by decide) dX8_textTold_55 rfl ?_
        refine aw_iconst (npc := 58) (v := 2) (by decide) dX8_textTold_57 rfl ?_
        refine aw_iload_n (npc := 59) rfl dX8_textTold_58 rfl ?_
        refine aw_imulV (npc := 60) (v := nI (2 * tn)) dX8_textTold_59 rfl (pk_mul 2 _) ?_
        refine aw_iaddV (npc := 61) (v := nI (62 + (2 * tn))) dX8_textTold_60 rfl (nI_add 62 _) ?_
        refine aw_iconst (npc := 62) (v := 1) (by decide) dX8_textTold_61 rfl ?_
        refine aw_iaddV (npc := 63) (v := nI (63 + (2 * tn))) dX8_textTold_62 rfl ((nI_add _ 1).trans (congrArg nI (by omega))) ?_
        refine aw_iald (npc := 64) (x := N (63 + (2 * tn))) (j := (63 + (2 * tn))) dX8_textTold_63 rfl F.2.1 (am_ix_nI (by omega)) (tl_at (by omega)) ?_
        refine aw_iret rfl dX8_textTold_64 ?_
        exact (show ttM N (nI tn) w = (N (63 + (2 * tn))) by simp [ttM, cI, hw1, hw2, hc3, ftn, Nat.add_right_comm]) ▸ hq
      · subst hc3
        refine aw_aload_n (npc := 34) rfl dX8_textTold_33 rfl ?_
        refine aw_get (npc := 37) dX8_textTold_34 rfl kf_X8_9 F.1 rfl ?_
        refine aw_bipush (npc := 39) (v := 62) (by decide) dX8_textTold_37 rfl ?_
        refine aw_iconst (npc := 40) (v := 2) (by decide) dX8_textTold_39 rfl ?_
        refine aw_iload_n (npc := 41) rfl dX8_textTold_40 rfl ?_
        refine aw_imulV (npc := 42) (v := nI (2 * tn)) dX8_textTold_41 rfl (pk_mul 2 _) ?_
        refine aw_iaddV (npc := 43) (v := nI (62 + (2 * tn))) dX8_textTold_42 rfl (nI_add 62 _) ?_
        refine aw_iald (npc := 44) (x := N (62 + (2 * tn))) (j := (62 + (2 * tn))) dX8_textTold_43 rfl F.2.1 (am_ix_nI (by omega)) (tl_at (by omega)) ?_
        refine aw_sipush (npc := 47) (v := 1000) (by decide) dX8_textTold_44 rfl ?_
        refine aw_idiv (npc := 48) (by decide) dX8_textTold_47 rfl ?_
        refine aw_goto (npc := 64) dX8_textTold_48 (by decide) ?_
        refine aw_iret rfl dX8_textTold_64 ?_
        exact (show ttM N (nI tn) 0 = ((N (62 + (2 * tn))) / 1000) by simp [ttM, cI, hw1, hw2, ftn, Nat.add_right_comm]) ▸ hq
    · refine aw_re (S' := [.int 0]) rfl ?_
      refine aw_if_ne (npc := 26) (tgt := 29) dX8_textTold_23 rfl (by decide) (fun hc => absurd (by decide) hc) (fun _ => ?_)
      refine aw_ldc (npc := 28) kc_X8_91 dX8_textTold_26 rfl ?_
      refine aw_iret rfl dX8_textTold_28 ?_
      exact (show ttM N (nI tn) w = (-1000000001) by simp [ttM, cI, hw1, hw2, ftn, Nat.add_right_comm]) ▸ hq
  · refine aw_re (S' := [.int 0]) rfl ?_
    refine aw_if_eq (npc := 17) (tgt := 26) dX8_textTold_14 rfl (by decide) (fun _ => ?_) (fun hc => absurd (by decide) hc)
    refine aw_ldc (npc := 28) kc_X8_91 dX8_textTold_26 rfl ?_
    refine aw_iret rfl dX8_textTold_28 ?_
    exact (show ttM N t w = (-1000000001) by simp [ttM, cI, hw1, Nat.add_right_comm]) ▸ hq
noncomputable def teV (q : Nat) : Int32 := cI (q < 60) (nI (q + 1)) (-1000000003)
set_option maxHeartbeats 4000000 in
set_option maxRecDepth 100000 in
theorem C_tell {X : List Int32} {d rc rs n : Nat} {Q : am_Q} {h : am_H} {N : Nat → Int32} {tx : List Value} {lk mv : Nat → Int32} {ik wc : Int32} {fr c : Nat} {v : Int32} {wt : Nat → Int32} {q : Nat} (O : OB ik wc h) (Wt : WT wt h) (hq9 : wc = nI q) (hq60 : q ≤ 60) (k1 : q = 60 → Q (some (.int (-1000000003))) n h) (k0 : q < 60 → ∀ h9, OB ik (nI (q + 1)) h9 → WT (upd wt q v) h9 → am_fp (fun k => k ≠ 0 ∧ k ≠ 45) h9 h → Q (some (.int (nI (q + 1)))) n h9) : AW X mX7_tell (d + 12) rc rs 0 [some (.ref 0), some (.int v)] [] n h Q := by
  refine aw_aload_n (npc := 1) rfl dX7_tell_0 rfl ?_
  refine aw_get (npc := 4) dX7_tell_1 rfl kf_X7_61 O.1 rfl ?_
  refine aw_top (y := nI q) (hq9) ?_
  refine aw_bipush (npc := 6) (v := 60) (by decide) dX7_tell_4 rfl ?_
  refine aw_icmp_lt (npc := 9) (tgt := 12) dX7_tell_6 rfl (by decide) (fun hc1 => ?_) (fun hc1 => ?_)
  · have hc1N := (nI_ltI (a := q) (b := 60) (by omega) (by omega)).mp hc1
    refine aw_aload_n (npc := 13) rfl dX7_tell_12 rfl ?_
    refine aw_get (npc := 16) dX7_tell_13 rfl kf_X7_57 O.1 rfl ?_
    refine aw_aload_n (npc := 17) rfl dX7_tell_16 rfl ?_
    refine aw_get (npc := 20) dX7_tell_17 rfl kf_X7_61 O.1 rfl ?_
    refine aw_top (y := nI q) (hq9) ?_
    refine aw_iload_n (npc := 21) rfl dX7_tell_20 rfl ?_
    refine aw_iast (npc := 22) (j := q) dX7_tell_21 rfl Wt (am_ix_nI (by omega)) (by rw [tl_len]; omega) rfl ?_
    have Wt2 := wt_set (j := q) (v := v) Wt
    have O3 := ob_out (a := 45) (c := .inl (0, (tl 60 wt).set q v)) (by omega) O
    refine aw_aload_n (npc := 23) rfl dX7_tell_22 rfl ?_
    refine aw_dup (npc := 24) rfl dX7_tell_23 rfl ?_
    refine aw_get (npc := 27) dX7_tell_24 rfl kf_X7_61 O3.1 rfl ?_
    refine aw_top (y := nI q) (hq9) ?_
    refine aw_iconst (npc := 28) (v := 1) (by decide) dX7_tell_27 rfl ?_
    refine aw_iaddV (npc := 29) (v := nI (q + 1)) dX7_tell_28 rfl (nI_add _ 1) ?_
    refine aw_put (npc := 32) dX7_tell_29 rfl kf_X7_61 O3.1 (Nat.le_of_ble_eq_true rfl) (am_ok_int _) rfl ?_
    have O4 := ob_p10 (v := nI (q + 1)) O3
    have Wt5 := wt_out (a := 0) (c := .inr (7, ([.ref 1, .ref 13, .ref 25, .int ik, .ref 37, .ref 39, .ref 40, .ref 43, .ref 44, .ref 45, .int wc] : List Value).set 10 (.int (nI (q + 1))))) (by omega) Wt2
    refine aw_aload_n (npc := 33) rfl dX7_tell_32 rfl ?_
    refine aw_get (npc := 36) dX7_tell_33 rfl kf_X7_61 O4.1 rfl ?_
    refine aw_iret rfl dX7_tell_36 ?_
    exact k0 (by omega) _ O4 Wt5 (am_fpU (show ¬ (0 ≠ 0 ∧ 0 ≠ 45) by omega) (am_fpU (show ¬ (45 ≠ 0 ∧ 45 ≠ 45) by omega) am_fp0))
  · have hc1N : ¬ q < 60 := fun z => hc1 ((nI_ltI (a := q) (b := 60) (by omega) (by omega)).mpr z)
    refine aw_ldc (npc := 11) kc_X7_82 dX7_tell_9 rfl ?_
    refine aw_iret rfl dX7_tell_11 ?_
    exact k1 (by omega)
set_option maxHeartbeats 4000000 in
set_option maxRecDepth 100000 in
theorem M_tell {X : List Int32} {d rc rs n : Nat} {Q : am_Q} {h : am_H} {o N : Nat → Int32} {a : Nat → Nat → Int32} {fr c : Nat} {v : Int32} {q : Nat} (F : MR o N a h) (hq9 : o 35 = nI q) (hq60 : q ≤ 60) (k1 : q = 60 → Q (some (.int (-1000000003))) n h) (k0 : q < 60 → ∀ h9, MR (upd o 35 (nI (q + 1))) N (aup a 91 q v) h9 → am_fp (fun k => k < 69 ∨ 92 ≤ k) h9 h → Q (some (.int (nI (q + 1)))) n h9) : AW X mX8_tell (d + 12) rc rs 0 [some (.ref 69), some (.int v)] [] n h Q := by
  refine aw_aload_n (npc := 1) rfl dX8_tell_0 rfl ?_
  refine aw_get (npc := 4) dX8_tell_1 rfl kf_X8_266 F.1 rfl ?_
  refine aw_top (y := nI q) (hq9) ?_
  refine aw_bipush (npc := 6) (v := 60) (by decide) dX8_tell_4 rfl ?_
  refine aw_icmp_ne (npc := 9) (tgt := 12) dX8_tell_6 rfl (by decide) (fun hc1 => ?_) (fun hc1 => ?_)
  · have hc1N : ¬ q = 60 := fun z => hc1 ((nI_eq (a := q) (b := 60) (by omega) (by omega)).mpr z)
    refine aw_aload_n (npc := 13) rfl dX8_tell_12 rfl ?_
    refine aw_get (npc := 16) dX8_tell_13 rfl kf_X8_79 F.1 rfl ?_
    refine aw_aload_n (npc := 17) rfl dX8_tell_16 rfl ?_
    refine aw_get (npc := 20) dX8_tell_17 rfl kf_X8_266 F.1 rfl ?_
    refine aw_top (y := nI q) (hq9) ?_
    refine aw_iload_n (npc := 21) rfl dX8_tell_20 rfl ?_
    refine aw_iast (npc := 22) (j := q) dX8_tell_21 rfl F.2.2.2.2.2.2.2.2.2.2.2.2.2.2.2.2.2.2.2.2.2.2 (am_ix_nI (by omega)) (by rw [tl_len]; omega) rfl ?_
    have F2 := mr_91 (j := q) (v := v) F
    refine aw_aload_n (npc := 23) rfl dX8_tell_22 rfl ?_
    refine aw_dup (npc := 24) rfl dX8_tell_23 rfl ?_
    refine aw_get (npc := 27) dX8_tell_24 rfl kf_X8_266 F2.1 rfl ?_
    refine aw_top (y := nI q) (hq9) ?_
    refine aw_iconst (npc := 28) (v := 1) (by decide) dX8_tell_27 rfl ?_
    refine aw_iaddV (npc := 29) (v := nI (q + 1)) dX8_tell_28 rfl (nI_add _ 1) ?_
    refine aw_put (npc := 32) dX8_tell_29 rfl kf_X8_266 F2.1 (Nat.le_of_ble_eq_true rfl) (am_ok_int _) rfl ?_
    have F3 := mr_o35 (v := nI (q + 1)) F2
    refine aw_aload_n (npc := 33) rfl dX8_tell_32 rfl ?_
    refine aw_get (npc := 36) dX8_tell_33 rfl kf_X8_266 F3.1 rfl ?_
    refine aw_top (y := nI (q + 1)) (pk_us) ?_
    refine aw_iret rfl dX8_tell_36 ?_
    exact k0 (by omega) _ F3 (am_fpU (show ¬ (69 < 69 ∨ 92 ≤ 69) by omega) (am_fpU (show ¬ (91 < 69 ∨ 92 ≤ 91) by omega) am_fp0))
  · have hc1N := (nI_eq (a := q) (b := 60) (by omega) (by omega)).mp hc1
    refine aw_ldc (npc := 11) kc_X8_92 dX8_tell_9 rfl ?_
    refine aw_iret rfl dX8_tell_11 ?_
    exact k1 (by omega)
set_option maxHeartbeats 4000000 in
set_option maxRecDepth 100000 in
theorem C_trim {X : List Int32} {d rc rs n : Nat} {Q : am_Q} {h : am_H} {N : Nat → Int32} {tx : List Value} {lk mv : Nat → Int32} {ik wc : Int32} {fr c : Nat} {v : Int32} {r tp cd : Nat → Int32} {tn : Int32} (O : OB ik wc h) (Rd : RD r tn tp cd h) (k1 : ¬ wi v 0 tn → Q (some (.int (-1000000001))) n h) (k0 : wi v 0 tn → ∀ h9, RD r v tp cd h9 → am_fp (fun k => k ≠ 40) h9 h → Q (some (.int v)) n h9) : AW X mX7_trim (d + 12) rc rs 0 [some (.ref 0), some (.int v)] [] n h Q := by
  refine aw_iload_n (npc := 1) rfl dX7_trim_0 rfl ?_
  refine aw_iconst (npc := 2) (v := 0) (by decide) dX7_trim_1 rfl ?_
  refine aw_aload_n (npc := 3) rfl dX7_trim_2 rfl ?_
  refine aw_get (npc := 6) dX7_trim_3 rfl kf_X7_44 O.1 rfl ?_
  refine aw_get (npc := 9) dX7_trim_6 rfl kf_X7_234 Rd.2.1 rfl ?_
  refine aw_callS (npc := 12) (N := mX7_within) (mc := 0) (ms := 0) (A := [.int v, .int 0, .int tn]) (S := []) (L0 := [some (.int v), some (.int 0), some (.int tn)]) dX7_trim_9 rfl km_X7_within kk_X7_74 rfl ⟨rfl, by decide⟩ rfl (Nat.le_of_ble_eq_true rfl) (Nat.zero_add _) (Nat.zero_add _) rfl ?_
  refine c_X7_within (fun hw1 => ?_) (fun hw1 => ?_)
  · refine aw_re (S' := [.int 1]) rfl ?_
    refine aw_if_ne (npc := 15) (tgt := 18) dX7_trim_12 rfl (by decide) (fun _ => ?_) (fun hc => absurd hc (by decide))
    refine aw_aload_n (npc := 19) rfl dX7_trim_18 rfl ?_
    refine aw_get (npc := 22) dX7_trim_19 rfl kf_X7_44 O.1 rfl ?_
    refine aw_iload_n (npc := 23) rfl dX7_trim_22 rfl ?_
    refine aw_put (npc := 26) dX7_trim_23 rfl kf_X7_234 Rd.2.1 (Nat.le_of_ble_eq_true rfl) (am_ok_int _) rfl ?_
    have Rd2 := rd_len (v := v) Rd
    have O3 := ob_out (a := 40) (c := .inr (4, ([.ref 41, .int tn] : List Value).set 1 (.int v))) (by omega) O
    refine aw_iload_n (npc := 27) rfl dX7_trim_26 rfl ?_
    refine aw_iret rfl dX7_trim_27 ?_
    exact k0 hw1 _ Rd2 (am_fpU (show ¬ (40 ≠ 40) by omega) am_fp0)
  · refine aw_re (S' := [.int 0]) rfl ?_
    refine aw_if_ne (npc := 15) (tgt := 18) dX7_trim_12 rfl (by decide) (fun hc => absurd (by decide) hc) (fun _ => ?_)
    refine aw_ldc (npc := 17) kc_X7_78 dX7_trim_15 rfl ?_
    refine aw_iret rfl dX7_trim_17 ?_
    exact k1 hw1
set_option maxHeartbeats 4000000 in
set_option maxRecDepth 100000 in
theorem M_trim {X : List Int32} {d rc rs n : Nat} {Q : am_Q} {h : am_H} {o N : Nat → Int32} {a : Nat → Nat → Int32} {fr c : Nat} {v : Int32} (F : MR o N a h) (k1 : ¬ wi v 0 (o 9) → Q (some (.int (-1000000001))) n h) (k0 : wi v 0 (o 9) → ∀ h9, MR (upd o 9 v) N a h9 → am_fp (fun k => k < 69 ∨ 92 ≤ k) h9 h → Q (some (.int v)) n h9) : AW X mX8_trim (d + 12) rc rs 0 [some (.ref 69), some (.int v)] [] n h Q := by
  refine aw_iload_n (npc := 1) rfl dX8_trim_0 rfl ?_
  refine aw_iconst (npc := 2) (v := 0) (by decide) dX8_trim_1 rfl ?_
  refine aw_aload_n (npc := 3) rfl dX8_trim_2 rfl ?_
  refine aw_get (npc := 6) dX8_trim_3 rfl kf_X8_192 F.1 rfl ?_
  refine aw_callS (npc := 9) (N := mX8_in) (mc := 0) (ms := 0) (A := [.int v, .int 0, .int (o 9)]) (S := []) (L0 := [some (.int v), some (.int 0), some (.int (o 9))]) dX8_trim_6 rfl km_X8_in kk_X8_83 rfl ⟨rfl, by decide⟩ rfl (Nat.le_of_ble_eq_true rfl) (Nat.zero_add _) (Nat.zero_add _) rfl ?_
  refine c_X8_in (fun hw1 => ?_) (fun hw1 => ?_)
  · refine aw_re (S' := [.int 1]) rfl ?_
    refine aw_if_ne (npc := 12) (tgt := 15) dX8_trim_9 rfl (by decide) (fun _ => ?_) (fun hc => absurd hc (by decide))
    refine aw_aload_n (npc := 16) rfl dX8_trim_15 rfl ?_
    refine aw_iload_n (npc := 17) rfl dX8_trim_16 rfl ?_
    refine aw_put (npc := 20) dX8_trim_17 rfl kf_X8_192 F.1 (Nat.le_of_ble_eq_true rfl) (am_ok_int _) rfl ?_
    have F2 := mr_o9 (v := v) F
    refine aw_iload_n (npc := 21) rfl dX8_trim_20 rfl ?_
    refine aw_iret rfl dX8_trim_21 ?_
    exact k0 hw1 _ F2 (am_fpU (show ¬ (69 < 69 ∨ 92 ≤ 69) by omega) am_fp0)
  · refine aw_re (S' := [.int 0]) rfl ?_
    refine aw_if_ne (npc := 12) (tgt := 15) dX8_trim_9 rfl (by decide) (fun hc => absurd (by decide) hc) (fun _ => ?_)
    refine aw_ldc (npc := 14) kc_X8_91 dX8_trim_12 rfl ?_
    refine aw_iret rfl dX8_trim_14 ?_
    exact k1 hw1
set_option maxHeartbeats 4000000 in
set_option maxRecDepth 100000 in
theorem g_fillL {X : List Int32} {d rc rs n : Nat} {Q : am_Q} {h : am_H} {a0 m : Nat} {v : Int32} (hm : m < 1000) : ∀ (q i : Nat), i + q = m → ∀ (f : Nat → Int32), (∀ j, j < i → f j = v) → Q none n (am_up h a0 (.inl (0, tl m (fun _ => v)))) → AW X mJ7_fill_53178 d rc rs 5 [some (.ref a0), some (.int v), some (.int (nI i)), some (.int (nI m))] [] n (am_up h a0 (.inl (0, tl m f))) Q := by
  intro q
  induction q with
  | zero =>
    intro i hi f hf hq
    obtain rfl : i = m := by omega
    refine aw_iload_n (npc := 6) rfl dJ7_fill_53178_5 rfl ?_
    refine aw_iload_n (npc := 7) rfl dJ7_fill_53178_6 rfl ?_
    refine aw_icmp_ge (npc := 10) (tgt := 20) dJ7_fill_53178_7 rfl (by decide) (fun _ => ?_) (fun hc => absurd (nI_le (a := i) (b := i) (by omega) (by omega)) hc)
    refine aw_vret rfl dJ7_fill_53178_20 ?_
    exact (congrArg (fun l : List Int32 => am_up h a0 (.inl (0, l))) (tl_congr (fun j hj => hf j hj))) ▸ hq
  | succ q ih =>
    intro i hi f hf hq
    refine aw_iload_n (npc := 6) rfl dJ7_fill_53178_5 rfl ?_
    refine aw_iload_n (npc := 7) rfl dJ7_fill_53178_6 rfl ?_
    refine aw_icmp_ge (npc := 10) (tgt := 20) dJ7_fill_53178_7 rfl (by decide) (fun hc => absurd hc (nI_ge (a := i) (b := m) (by omega) (by omega))) (fun _ => ?_)
    refine aw_aload_n (npc := 11) rfl dJ7_fill_53178_10 rfl ?_
    refine aw_iload_n (npc := 12) rfl dJ7_fill_53178_11 rfl ?_
    refine aw_iload_n (npc := 13) rfl dJ7_fill_53178_12 rfl ?_
    refine aw_iast (npc := 14) (j := i) dJ7_fill_53178_13 rfl am_eq (am_ix_nI (by omega)) (by rw [tl_len]; omega) (show _ = am_up h a0 (.inl (0, tl m (upd f i v))) from am_uu.trans (congrArg (fun l : List Int32 => am_up h a0 (.inl (0, l))) tl_set)) ?_
    refine aw_iinc (npc := 17) (v := nI (i + 1)) (L' := [some (.ref a0), some (.int v), some (.int (nI (i + 1))), some (.int (nI m))]) dJ7_fill_53178_14 rfl rfl (nI_1 _) (by decide) rfl rfl ?_
    refine aw_goto (npc := 5) dJ7_fill_53178_17 (by decide) ?_
    refine ih (i + 1) (by omega) _ (fun j hj => ?_) hq
    by_cases z : j = i
    · subst z; exact pk_us
    · exact (pk_un z).trans (hf j (by omega))
set_option maxHeartbeats 4000000 in
set_option maxRecDepth 100000 in
theorem g_fill {X : List Int32} {d rc rs n : Nat} {Q : am_Q} {h : am_H} {a0 m : Nat} {v : Int32} {f : Nat → Int32} (hm : m < 1000) (t0 : h a0 = some (.inl (0, tl m f))) (hq : Q none n (am_up h a0 (.inl (0, tl m (fun _ => v))))) : AW X mJ7_fill_53178 d rc rs 0 [some (.ref a0), some (.int v), none, none] [] n h Q := by
  refine aw_hp (h' := am_up h a0 (.inl (0, tl m f))) (am_us t0).symm ?_
  refine aw_iconst (npc := 1) (v := 0) (by decide) dJ7_fill_53178_0 rfl ?_
  refine aw_istore_n (npc := 2) (L' := [some (.ref a0), some (.int v), some (.int 0), none]) dJ7_fill_53178_1 rfl (by decide) rfl rfl ?_
  refine aw_aload_n (npc := 3) rfl dJ7_fill_53178_2 rfl ?_
  refine aw_alen (npc := 4) (v := nI m) dJ7_fill_53178_3 rfl am_eq (by rw [tl_len]; rfl) ?_
  refine aw_istore_n (npc := 5) (L' := [some (.ref a0), some (.int v), some (.int 0), some (.int (nI m))]) dJ7_fill_53178_4 rfl (by decide) rfl rfl ?_
  refine aw_locs (L' := [some (.ref a0), some (.int v), some (.int (nI 0)), some (.int (nI m))]) rfl ?_
  exact g_fillL hm m 0 (by omega) f (fun j hj => by omega) hq
def clr (f : Nat → Int32) (s k : Nat) : Nat → Int32 := fun i => if 24 * s ≤ i ∧ i < 24 * s + k then 0 else f i
theorem clr_0 {f : Nat → Int32} {s : Nat} : clr f s 0 = f := funext (fun i => if_neg (by omega))
theorem clr_s {f : Nat → Int32} {s k : Nat} : upd (clr f s k) (24 * s + k) 0 = clr f s (k + 1) := funext (fun i => by
  by_cases e : i = 24 * s + k
  · subst e; rw [pk_us]; exact (if_pos (by omega)).symm
  · rw [pk_un e]
    unfold clr
    by_cases q : 24 * s ≤ i ∧ i < 24 * s + k
    · rw [if_pos q, if_pos (by omega)]
    · rw [if_neg q, if_neg (by omega)])
def RI (sr sz : Nat → Int32) : Prop := ∀ s, s < 4 → wi (sr s) (-1) 1 ∧ ∃ z, z ≤ 24 ∧ sz s = nI z
theorem wi_cm1_1 {x : Int32} (h : wi x (-1) 1) : x = -1 ∨ x = 0 ∨ x = 1 := by
  have h1 : ¬ x.toInt < -1 := fun q => h.1 (Int32.lt_iff_toInt_lt.mpr (by simpa using q))
  have h2 : ¬ 1 < x.toInt := fun q => h.2 (Int32.lt_iff_toInt_lt.mpr (by simpa using q))
  rcases (show x.toInt = -1 ∨ x.toInt = 0 ∨ x.toInt = 1 by omega) with q | q | q
  · exact Or.inl (Int32.toInt_inj.mp (by rw [q]; rfl))
  · exact Or.inr (Or.inl (Int32.toInt_inj.mp (by rw [q]; rfl)))
  · exact Or.inr (Or.inr (Int32.toInt_inj.mp (by rw [q]; rfl)))
noncomputable def shV (s t n : Int32) : Int32 := cI (wi s 0 3 ∧ wi t (-1) 1) (cI (t = -1) 0 (cI (24 < n) (-1000000001) (cI (n < 0) (-1000000014) n))) (-1000000001)
noncomputable def shK (s t n : Int32) : Prop := wi s 0 3 ∧ wi t (-1) 1 ∧ (t = -1 ∨ (¬ 24 < n ∧ ¬ n < 0))
noncomputable def shR (s t n : Int32) (sr : Nat → Int32) : Nat → Int32 := cI (shK s t n) (upd sr (fN s) t) sr
noncomputable def shZ (s t n : Int32) (sz : Nat → Int32) : Nat → Int32 := cI (shK s t n) (upd sz (fN s) (cI (t = -1) 0 n)) sz
noncomputable def shC (s t n : Int32) (cl : Nat → Int32) : Nat → Int32 := cI (shK s t n) (clr cl (fN s) 24) cl
set_option maxHeartbeats 4000000 in
set_option maxRecDepth 100000 in
theorem C_sheet {X : List Int32} {d rc rs n : Nat} {Q : am_Q} {h : am_H} {N : Nat → Int32} {tx : List Value} {lk mv : Nat → Int32} {ik wc : Int32} {fr c : Nat} {s : Int32} {t : Int32} {m : Int32} {sr sz cl : Nat → Int32} (O : OB ik wc h) (Rw : RW sr sz cl h) (hq : ∀ v9 r9 z9 c9 h9, v9 = shV s t m → r9 = shR s t m sr → z9 = shZ s t m sz → c9 = shC s t m cl → RW r9 z9 c9 h9 → am_fp (fun k => k < 46 ∨ 54 ≤ k) h9 h → Q (some (.int v9)) n h9) : AW X mX7_sheet (d + 12) rc rs 0 [some (.ref 0), some (.int s), some (.int t), some (.int m)] [] n h Q := by
  refine aw_iload_n (npc := 1) rfl dX7_sheet_0 rfl ?_
  refine aw_callS (npc := 4) (N := mX7_isSheet) (mc := 0) (ms := 0) (A := [.int s]) (S := []) (L0 := [some (.int s)]) dX7_sheet_1 rfl km_X7_isSheet kk_X7_204 rfl ⟨rfl, by decide⟩ rfl (Nat.le_of_ble_eq_true rfl) (Nat.zero_add _) (Nat.zero_add _) rfl ?_
  refine c_X7_isSheet (fun hw1 => ?_) (fun hw1 => ?_)
  · obtain ⟨sn, hsn, esn⟩ := wi_nI (H := 3) (by decide) (by decide) hw1
    subst esn
    have fsn : fN (nI sn) = sn := fN_nI (by omega)
    refine aw_re (S' := [.int 1]) rfl ?_
    refine aw_if_eq (npc := 7) (tgt := 16) dX7_sheet_4 rfl (by decide) (fun hc => absurd hc (by decide)) (fun _ => ?_)
    refine aw_iload_n (npc := 8) rfl dX7_sheet_7 rfl ?_
    refine aw_iconst (npc := 9) (v := -1) (by decide) dX7_sheet_8 rfl ?_
    refine aw_iconst (npc := 10) (v := 1) (by decide) dX7_sheet_9 rfl ?_
    refine aw_callS (npc := 13) (N := mX7_within) (mc := 0) (ms := 0) (A := [.int t, .int (-1), .int 1]) (S := []) (L0 := [some (.int t), some (.int (-1)), some (.int 1)]) dX7_sheet_10 rfl km_X7_within kk_X7_74 rfl ⟨rfl, by decide⟩ rfl (Nat.le_of_ble_eq_true rfl) (Nat.zero_add _) (Nat.zero_add _) rfl ?_
    refine c_X7_within (fun hw2 => ?_) (fun hw2 => ?_)
    · refine aw_re (S' := [.int 1]) rfl ?_
      refine aw_if_ne (npc := 16) (tgt := 19) dX7_sheet_13 rfl (by decide) (fun _ => ?_) (fun hc => absurd hc (by decide))
      refine aw_iload_n (npc := 20) rfl dX7_sheet_19 rfl ?_
      refine aw_iconst (npc := 21) (v := -1) (by decide) dX7_sheet_20 rfl ?_
      refine aw_icmp_ne (npc := 24) (tgt := 37) dX7_sheet_21 rfl (by decide) (fun hc3 => ?_) (fun hc3 => ?_)
      · refine aw_iload_n (npc := 38) rfl dX7_sheet_37 rfl ?_
        refine aw_bipush (npc := 40) (v := 24) (by decide) dX7_sheet_38 rfl ?_
        refine aw_icmp_le (npc := 43) (tgt := 46) dX7_sheet_40 rfl (by decide) (fun hc4 => ?_) (fun hc4 => ?_)
        · refine aw_iload_n (npc := 47) rfl dX7_sheet_46 rfl ?_
          refine aw_if_ge (npc := 50) (tgt := 54) dX7_sheet_47 rfl (by decide) (fun hc5 => ?_) (fun hc5 => ?_)
          · refine aw_aload_n (npc := 55) rfl dX7_sheet_54 rfl ?_
            refine aw_get (npc := 58) dX7_sheet_55 rfl kf_X7_47 O.1 rfl ?_
            refine aw_iload_n (npc := 59) rfl dX7_sheet_58 rfl ?_
            refine aw_aald (npc := 60) (j := sn) dX7_sheet_59 rfl (by decide) O.2.1 (am_ix_nI (by omega)) (sh_at (by omega)) ?_
            refine aw_iload_n (npc := 61) rfl dX7_sheet_60 rfl ?_
            refine aw_iload_n (npc := 62) rfl dX7_sheet_61 rfl ?_
            refine aw_callV (npc := 65) (N := mX2_renew) (b := 46 + 2 * sn) (mc := 0) (ms := 0) (A := [.int t, .int m]) (S := []) (L0 := [some (.ref (46 + 2 * sn)), some (.int t), some (.int m)]) dX7_sheet_62 rfl km_X2_renew kk_X7_270 (Rw sn (by omega)).1 ⟨by decide, rfl⟩ rfl ⟨rfl, by decide⟩ rfl (Nat.le_of_ble_eq_true rfl) (Nat.zero_add _) (Nat.zero_add _) rfl ?_
            refine aw_aload_n (npc := 1) rfl dX2_renew_0 rfl ?_
            refine aw_iload_n (npc := 2) rfl dX2_renew_1 rfl ?_
            refine aw_put (npc := 5) dX2_renew_2 rfl kf_X2_9 (Rw sn (by omega)).1 (Nat.le_of_ble_eq_true rfl) (am_ok_int _) rfl ?_
            have Rw6 := rw_sort (s := sn) (v := t) Rw
            have O7 := ob_out (a := 46 + 2 * sn) (c := .inr (2, (rwO sr sz sn).set 0 (.int t))) (by omega) O
            refine aw_aload_n (npc := 6) rfl dX2_renew_5 rfl ?_
            refine aw_iload_n (npc := 7) rfl dX2_renew_6 rfl ?_
            refine aw_put (npc := 10) dX2_renew_7 rfl kf_X2_15 (Rw6 sn (by omega)).1 (Nat.le_of_ble_eq_true rfl) (am_ok_int _) rfl ?_
            have Rw8 := rw_size (s := sn) (v := m) Rw6
            have O9 := ob_out (a := 46 + 2 * sn) (c := .inr (2, (rwO (upd sr sn t) sz sn).set 1 (.int m))) (by omega) O7
            refine aw_aload_n (npc := 11) rfl dX2_renew_10 rfl ?_
            refine aw_get (npc := 14) dX2_renew_11 rfl kf_X2_18 (Rw8 sn (by omega)).1 rfl ?_
            refine aw_iconst (npc := 15) (v := 0) (by decide) dX2_renew_14 rfl ?_
            refine aw_callS (npc := 18) (N := mJ7_fill_53178) (mc := 0) (ms := 0) (A := [.ref (47 + 2 * sn), .int 0]) (S := []) (L0 := [some (.ref (47 + 2 * sn)), some (.int 0), none, none]) dX2_renew_15 rfl km_J7_fill_53178 kk_X2_22 rfl ⟨rfl, by decide⟩ rfl (Nat.le_of_ble_eq_true rfl) (Nat.zero_add _) (Nat.zero_add _) rfl ?_
            refine g_fill (by omega) (Rw8 sn (by omega)).2 ?_
            have Rw10 := rw_arr (cl' := clr cl sn 24) (s := sn) (l := tl 24 (fun _ => 0)) Rw8 (tl_congr (fun i hi => (if_pos (by omega)).symm)) (fun t i ht hi e => if_neg (by omega))
            have O11 := ob_out (a := 47 + 2 * sn) (c := .inl (0, tl 24 (fun _ => 0))) (by omega) O9
            refine aw_vret rfl dX2_renew_18 ?_
            refine aw_iload_n (npc := 66) rfl dX7_sheet_65 rfl ?_
            refine aw_iret rfl dX7_sheet_66 ?_
            exact hq _ _ _ _ _ (by simp [shV, shR, shZ, shC, shK, cI, hw1, hw2, hc3, hc4, hc5, fsn, Int32.not_lt.mpr hc4, Int32.not_lt.mpr hc5]) (by simp [shV, shR, shZ, shC, shK, cI, hw1, hw2, hc3, hc4, hc5, fsn, Int32.not_lt.mpr hc4, Int32.not_lt.mpr hc5]) (by simp [shV, shR, shZ, shC, shK, cI, hw1, hw2, hc3, hc4, hc5, fsn, Int32.not_lt.mpr hc4, Int32.not_lt.mpr hc5]) (by simp [shV, shR, shZ, shC, shK, cI, hw1, hw2, hc3, hc4, hc5, fsn, Int32.not_lt.mpr hc4, Int32.not_lt.mpr hc5]) Rw10 (am_fpU (show ¬ ((47 + 2 * sn) < 46 ∨ 54 ≤ (47 + 2 * sn)) by omega) (am_fpU (show ¬ ((46 + 2 * sn) < 46 ∨ 54 ≤ (46 + 2 * sn)) by omega) (am_fpU (show ¬ ((46 + 2 * sn) < 46 ∨ 54 ≤ (46 + 2 * sn)) by omega) am_fp0)))
          · refine aw_ldcw (npc := 53) kc_X7_274 dX7_sheet_50 rfl ?_
            refine aw_iret rfl dX7_sheet_53 ?_
            exact hq _ _ _ _ _ (by simp [shV, shR, shZ, shC, shK, cI, hw1, hw2, hc3, hc4, hc5, fsn, Int32.not_lt.mpr hc4, Int32.not_le.mp hc5]) (by simp [shV, shR, shZ, shC, shK, cI, hw1, hw2, hc3, hc4, hc5, fsn, Int32.not_lt.mpr hc4, Int32.not_le.mp hc5]) (by simp [shV, shR, shZ, shC, shK, cI, hw1, hw2, hc3, hc4, hc5, fsn, Int32.not_lt.mpr hc4, Int32.not_le.mp hc5]) (by simp [shV, shR, shZ, shC, shK, cI, hw1, hw2, hc3, hc4, hc5, fsn, Int32.not_lt.mpr hc4, Int32.not_le.mp hc5]) Rw am_fp0
        · refine aw_ldc (npc := 45) kc_X7_78 dX7_sheet_43 rfl ?_
          refine aw_iret rfl dX7_sheet_45 ?_
          exact hq _ _ _ _ _ (by simp [shV, shR, shZ, shC, shK, cI, hw1, hw2, hc3, hc4, fsn, Int32.not_le.mp hc4]) (by simp [shV, shR, shZ, shC, shK, cI, hw1, hw2, hc3, hc4, fsn, Int32.not_le.mp hc4]) (by simp [shV, shR, shZ, shC, shK, cI, hw1, hw2, hc3, hc4, fsn, Int32.not_le.mp hc4]) (by simp [shV, shR, shZ, shC, shK, cI, hw1, hw2, hc3, hc4, fsn, Int32.not_le.mp hc4]) Rw am_fp0
      · subst hc3
        refine aw_aload_n (npc := 25) rfl dX7_sheet_24 rfl ?_
        refine aw_get (npc := 28) dX7_sheet_25 rfl kf_X7_47 O.1 rfl ?_
        refine aw_iload_n (npc := 29) rfl dX7_sheet_28 rfl ?_
        refine aw_aald (npc := 30) (j := sn) dX7_sheet_29 rfl (by decide) O.2.1 (am_ix_nI (by omega)) (sh_at (by omega)) ?_
        refine aw_iconst (npc := 31) (v := -1) (by decide) dX7_sheet_30 rfl ?_
        refine aw_iconst (npc := 32) (v := 0) (by decide) dX7_sheet_31 rfl ?_
        refine aw_callV (npc := 35) (N := mX2_renew) (b := 46 + 2 * sn) (mc := 0) (ms := 0) (A := [.int (-1), .int 0]) (S := []) (L0 := [some (.ref (46 + 2 * sn)), some (.int (-1)), some (.int 0)]) dX7_sheet_32 rfl km_X2_renew kk_X7_270 (Rw sn (by omega)).1 ⟨by decide, rfl⟩ rfl ⟨rfl, by decide⟩ rfl (Nat.le_of_ble_eq_true rfl) (Nat.zero_add _) (Nat.zero_add _) rfl ?_
        refine aw_aload_n (npc := 1) rfl dX2_renew_0 rfl ?_
        refine aw_iload_n (npc := 2) rfl dX2_renew_1 rfl ?_
        refine aw_put (npc := 5) dX2_renew_2 rfl kf_X2_9 (Rw sn (by omega)).1 (Nat.le_of_ble_eq_true rfl) (am_ok_int _) rfl ?_
        have Rw12 := rw_sort (s := sn) (v := (-1)) Rw
        have O13 := ob_out (a := 46 + 2 * sn) (c := .inr (2, (rwO sr sz sn).set 0 (.int (-1)))) (by omega) O
        refine aw_aload_n (npc := 6) rfl dX2_renew_5 rfl ?_
        refine aw_iload_n (npc := 7) rfl dX2_renew_6 rfl ?_
        refine aw_put (npc := 10) dX2_renew_7 rfl kf_X2_15 (Rw12 sn (by omega)).1 (Nat.le_of_ble_eq_true rfl) (am_ok_int _) rfl ?_
        have Rw14 := rw_size (s := sn) (v := 0) Rw12
        have O15 := ob_out (a := 46 + 2 * sn) (c := .inr (2, (rwO (upd sr sn (-1)) sz sn).set 1 (.int 0))) (by omega) O13
        refine aw_aload_n (npc := 11) rfl dX2_renew_10 rfl ?_
        refine aw_get (npc := 14) dX2_renew_11 rfl kf_X2_18 (Rw14 sn (by omega)).1 rfl ?_
        refine aw_iconst (npc := 15) (v := 0) (by decide) dX2_renew_14 rfl ?_
        refine aw_callS (npc := 18) (N := mJ7_fill_53178) (mc := 0) (ms := 0) (A := [.ref (47 + 2 * sn), .int 0]) (S := []) (L0 := [some (.ref (47 + 2 * sn)), some (.int 0), none, none]) dX2_renew_15 rfl km_J7_fill_53178 kk_X2_22 rfl ⟨rfl, by decide⟩ rfl (Nat.le_of_ble_eq_true rfl) (Nat.zero_add _) (Nat.zero_add _) rfl ?_
        refine g_fill (by omega) (Rw14 sn (by omega)).2 ?_
        have Rw16 := rw_arr (cl' := clr cl sn 24) (s := sn) (l := tl 24 (fun _ => 0)) Rw14 (tl_congr (fun i hi => (if_pos (by omega)).symm)) (fun t i ht hi e => if_neg (by omega))
        have O17 := ob_out (a := 47 + 2 * sn) (c := .inl (0, tl 24 (fun _ => 0))) (by omega) O15
        refine aw_vret rfl dX2_renew_18 ?_
        refine aw_iconst (npc := 36) (v := 0) (by decide) dX7_sheet_35 rfl ?_
        refine aw_iret rfl dX7_sheet_36 ?_
        exact hq _ _ _ _ _ (by simp [shV, shR, shZ, shC, shK, cI, hw1, hw2, fsn]) (by simp [shV, shR, shZ, shC, shK, cI, hw1, hw2, fsn]) (by simp [shV, shR, shZ, shC, shK, cI, hw1, hw2, fsn]) (by simp [shV, shR, shZ, shC, shK, cI, hw1, hw2, fsn]) Rw16 (am_fpU (show ¬ ((47 + 2 * sn) < 46 ∨ 54 ≤ (47 + 2 * sn)) by omega) (am_fpU (show ¬ ((46 + 2 * sn) < 46 ∨ 54 ≤ (46 + 2 * sn)) by omega) (am_fpU (show ¬ ((46 + 2 * sn) < 46 ∨ 54 ≤ (46 + 2 * sn)) by omega) am_fp0)))
    · refine aw_re (S' := [.int 0]) rfl ?_
      refine aw_if_ne (npc := 16) (tgt := 19) dX7_sheet_13 rfl (by decide) (fun hc => absurd (by decide) hc) (fun _ => ?_)
      refine aw_ldc (npc := 18) kc_X7_78 dX7_sheet_16 rfl ?_
      refine aw_iret rfl dX7_sheet_18 ?_
      exact hq _ _ _ _ _ (by simp [shV, shR, shZ, shC, shK, cI, hw1, hw2, fsn]) (by simp [shV, shR, shZ, shC, shK, cI, hw1, hw2, fsn]) (by simp [shV, shR, shZ, shC, shK, cI, hw1, hw2, fsn]) (by simp [shV, shR, shZ, shC, shK, cI, hw1, hw2, fsn]) Rw am_fp0
  · refine aw_re (S' := [.int 0]) rfl ?_
    refine aw_if_eq (npc := 7) (tgt := 16) dX7_sheet_4 rfl (by decide) (fun _ => ?_) (fun hc => absurd (by decide) hc)
    refine aw_ldc (npc := 18) kc_X7_78 dX7_sheet_16 rfl ?_
    refine aw_iret rfl dX7_sheet_18 ?_
    exact hq _ _ _ _ _ (by simp [shV, shR, shZ, shC, shK, cI, hw1]) (by simp [shV, shR, shZ, shC, shK, cI, hw1]) (by simp [shV, shR, shZ, shC, shK, cI, hw1]) (by simp [shV, shR, shZ, shC, shK, cI, hw1]) Rw am_fp0
set_option maxHeartbeats 4000000 in
set_option maxRecDepth 100000 in
theorem m_sheetL {X : List Int32} {d rc rs n : Nat} {Q : am_Q} {o N cl : Nat → Int32} {s : Nat} {t m : Int32} (hs : s < 4) : ∀ (q k : Nat), k + q = 24 → ∀ (a : Nat → Nat → Int32) (h : am_H), MR o N a h → a 85 = clr cl s k → (∀ a9 h9, MR o N a9 h9 → a9 85 = clr cl s 24 → (∀ c, c ≠ 85 → a9 c = a c) → am_fp (fun k => k < 69 ∨ 92 ≤ k) h9 h → AW X mX8_sheet d rc rs 92 [some (.ref 69), some (.int (nI s)), some (.int t), some (.int m), some (.int (nI 24))] [] n h9 Q) → AW X mX8_sheet d rc rs 66 [some (.ref 69), some (.int (nI s)), some (.int t), some (.int m), some (.int (nI k))] [] n h Q := by
  intro q
  induction q with
  | zero =>
    intro k hk a h F hk9 hq
    obtain rfl : k = 24 := by omega
    refine aw_iload (npc := 68) rfl dX8_sheet_66 rfl ?_
    refine aw_bipush (npc := 70) (v := 24) (by decide) dX8_sheet_68 rfl ?_
    exact aw_icmp_ge (npc := 73) (tgt := 92) dX8_sheet_70 rfl (by decide) (fun _ => hq _ _ F hk9 (fun _ _ => rfl) am_fp0) (fun hc => absurd (nI_le (a := 24) (b := 24) (Nat.le_refl _) (by decide)) hc)
  | succ q ih =>
    intro k hk a h F hk9 hq
    refine aw_iload (npc := 68) rfl dX8_sheet_66 rfl ?_
    refine aw_bipush (npc := 70) (v := 24) (by decide) dX8_sheet_68 rfl ?_
    refine aw_icmp_ge (npc := 73) (tgt := 92) dX8_sheet_70 rfl (by decide) (fun hc => absurd hc (nI_ge (a := k) (b := 24) (by omega) (by omega))) (fun _ => ?_)
    refine aw_aload_n (npc := 74) rfl dX8_sheet_73 rfl ?_
    refine aw_get (npc := 77) dX8_sheet_74 rfl kf_X8_61 F.1 rfl ?_
    refine aw_bipush (npc := 79) (v := 24) (by decide) dX8_sheet_77 rfl ?_
    refine aw_iload_n (npc := 80) rfl dX8_sheet_79 rfl ?_
    refine aw_imulV (npc := 81) (v := nI (24 * s)) dX8_sheet_80 rfl (pk_mul 24 _) ?_
    refine aw_iload (npc := 83) rfl dX8_sheet_81 rfl ?_
    refine aw_iaddV (npc := 84) (v := nI ((24 * s) + k)) dX8_sheet_83 rfl (nI_add _ _) ?_
    refine aw_iconst (npc := 85) (v := 0) (by decide) dX8_sheet_84 rfl ?_
    refine aw_iast (npc := 86) (j := ((24 * s) + k)) dX8_sheet_85 rfl F.2.2.2.2.2.2.2.2.2.2.2.2.2.2.2.2.1 (am_ix_nI (by omega)) (by rw [tl_len]; omega) rfl ?_
    have F2 := mr_85 (j := ((24 * s) + k)) (v := 0) F
    refine aw_iinc (npc := 89) (v := nI (k + 1)) (L' := [some (.ref 69), some (.int (nI s)), some (.int t), some (.int m), some (.int (nI (k + 1)))]) dX8_sheet_86 rfl rfl (nI_1 _) (by decide) rfl rfl ?_
    refine aw_goto (npc := 66) dX8_sheet_89 (by decide) ?_
    refine ih (k + 1) (by omega) _ _ F2 ?_ (fun a9 h9 M9 e9 c9 f9 => hq a9 h9 M9 e9 (fun c hc => (c9 c hc).trans (aup_n hc)) (am_fpT f9 (am_fpU (show ¬ (85 < 69 ∨ 92 ≤ 85) by omega) am_fp0)))
    rw [aup_s, hk9]
    exact clr_s
set_option maxHeartbeats 4000000 in
set_option maxRecDepth 100000 in
theorem M_sheet {X : List Int32} {d rc rs n : Nat} {Q : am_Q} {h : am_H} {o N : Nat → Int32} {a : Nat → Nat → Int32} {fr c : Nat} {s : Int32} {t : Int32} {m : Int32} (F : MR o N a h) (hq : ∀ v9 a9 h9, v9 = shV s t m → a9 83 = shR s t m (a 83) → a9 84 = shZ s t m (a 84) → a9 85 = shC s t m (a 85) → (∀ c, c ≠ 83 → c ≠ 84 → c ≠ 85 → a9 c = a c) → MR o N a9 h9 → am_fp (fun k => k < 69 ∨ 92 ≤ k) h9 h → Q (some (.int v9)) n h9) : AW X mX8_sheet (d + 12) rc rs 0 [some (.ref 69), some (.int s), some (.int t), some (.int m), none] [] n h Q := by
  refine aw_iload_n (npc := 1) rfl dX8_sheet_0 rfl ?_
  refine aw_callS (npc := 4) (N := mX8_isSheet) (mc := 0) (ms := 0) (A := [.int s]) (S := []) (L0 := [some (.int s)]) dX8_sheet_1 rfl km_X8_isSheet kk_X8_184 rfl ⟨rfl, by decide⟩ rfl (Nat.le_of_ble_eq_true rfl) (Nat.zero_add _) (Nat.zero_add _) rfl ?_
  refine c_X8_isSheet (fun hw1 => ?_) (fun hw1 => ?_)
  · obtain ⟨sn, hsn, esn⟩ := wi_nI (H := 3) (by decide) (by decide) hw1
    subst esn
    have fsn : fN (nI sn) = sn := fN_nI (by omega)
    refine aw_re (S' := [.int 1]) rfl ?_
    refine aw_if_eq (npc := 7) (tgt := 26) dX8_sheet_4 rfl (by decide) (fun hc => absurd hc (by decide)) (fun _ => ?_)
    refine aw_iload_n (npc := 8) rfl dX8_sheet_7 rfl ?_
    refine aw_iconst (npc := 9) (v := -1) (by decide) dX8_sheet_8 rfl ?_
    refine aw_iconst (npc := 10) (v := 1) (by decide) dX8_sheet_9 rfl ?_
    refine aw_callS (npc := 13) (N := mX8_in) (mc := 0) (ms := 0) (A := [.int t, .int (-1), .int 1]) (S := []) (L0 := [some (.int t), some (.int (-1)), some (.int 1)]) dX8_sheet_10 rfl km_X8_in kk_X8_83 rfl ⟨rfl, by decide⟩ rfl (Nat.le_of_ble_eq_true rfl) (Nat.zero_add _) (Nat.zero_add _) rfl ?_
    refine c_X8_in (fun hw2 => ?_) (fun hw2 => ?_)
    · rcases wi_cm1_1 hw2 with rfl | rfl | rfl
      · refine aw_re (S' := [.int 1]) rfl ?_
        refine aw_if_eq (npc := 16) (tgt := 26) dX8_sheet_13 rfl (by decide) (fun hc => absurd hc (by decide)) (fun _ => ?_)
        refine aw_iload_n (npc := 17) rfl dX8_sheet_16 rfl ?_
        refine aw_if_lt (npc := 20) (tgt := 29) dX8_sheet_17 rfl (by decide) (fun _ => ?_) (fun hc => absurd (by decide) hc)
        refine aw_iload_n (npc := 30) rfl dX8_sheet_29 rfl ?_
        refine aw_if_lt (npc := 33) (tgt := 41) dX8_sheet_30 rfl (by decide) (fun _ => ?_) (fun hc => absurd (by decide) hc)
        refine aw_aload_n (npc := 42) rfl dX8_sheet_41 rfl ?_
        refine aw_get (npc := 45) dX8_sheet_42 rfl kf_X8_55 F.1 rfl ?_
        refine aw_iload_n (npc := 46) rfl dX8_sheet_45 rfl ?_
        refine aw_iload_n (npc := 47) rfl dX8_sheet_46 rfl ?_
        refine aw_iast (npc := 48) (j := sn) dX8_sheet_47 rfl F.2.2.2.2.2.2.2.2.2.2.2.2.2.2.1 (am_ix_nI (by omega)) (by rw [tl_len]; omega) rfl ?_
        have F3 := mr_83 (j := sn) (v := (-1)) F
        refine aw_aload_n (npc := 49) rfl dX8_sheet_48 rfl ?_
        refine aw_get (npc := 52) dX8_sheet_49 rfl kf_X8_58 F3.1 rfl ?_
        refine aw_iload_n (npc := 53) rfl dX8_sheet_52 rfl ?_
        refine aw_iload_n (npc := 54) rfl dX8_sheet_53 rfl ?_
        refine aw_if_ge (npc := 57) (tgt := 61) dX8_sheet_54 rfl (by decide) (fun hc => absurd hc (by decide)) (fun _ => ?_)
        refine aw_iconst (npc := 58) (v := 0) (by decide) dX8_sheet_57 rfl ?_
        refine aw_goto (npc := 62) dX8_sheet_58 (by decide) ?_
        refine aw_iast (npc := 63) (j := sn) dX8_sheet_62 rfl F3.2.2.2.2.2.2.2.2.2.2.2.2.2.2.2.1 (am_ix_nI (by omega)) (by rw [tl_len]; omega) rfl ?_
        have F4 := mr_84 (j := sn) (v := 0) F3
        refine aw_iconst (npc := 64) (v := 0) (by decide) dX8_sheet_63 rfl ?_
        refine aw_istore (npc := 66) (L' := [some (.ref 69), some (.int (nI sn)), some (.int (-1)), some (.int m), some (.int 0)]) dX8_sheet_64 rfl (by decide) rfl rfl ?_
        refine aw_locs (L' := [some (.ref 69), some (.int (nI sn)), some (.int (-1)), some (.int m), some (.int (nI 0))]) rfl ?_
        refine m_sheetL (s := sn) (cl := a 85) (by omega) 24 0 (by omega) _ _ F4 clr_0.symm (fun a9 h9 M9 e9 c9 f9 => ?_)
        have e83 : a9 83 = upd (a 83) sn (-1) := c9 83 (by decide)
        have e84 : a9 84 = upd (a 84) sn 0 := c9 84 (by decide)
        have e8 : ∀ c, c ≠ 83 → c ≠ 84 → c ≠ 85 → a9 c = a c := fun c h1 h2 h3 => (c9 c h3).trans ((aup_n h2).trans (aup_n h1))
        refine aw_aload_n (npc := 93) rfl dX8_sheet_92 rfl ?_
        refine aw_get (npc := 96) dX8_sheet_93 rfl kf_X8_58 M9.1 rfl ?_
        refine aw_iload_n (npc := 97) rfl dX8_sheet_96 rfl ?_
        refine aw_iald (npc := 98) (x := (a9 84) sn) (j := sn) dX8_sheet_97 rfl M9.2.2.2.2.2.2.2.2.2.2.2.2.2.2.2.1 (am_ix_nI (by omega)) (tl_at (by omega)) ?_
        refine aw_iret rfl dX8_sheet_98 ?_
        exact hq _ _ _ (by simp [shV, shR, shZ, shC, shK, cI, hw1, hw2, fsn, e83, e84, e9, pk_us]) (by simp [shV, shR, shZ, shC, shK, cI, hw1, hw2, fsn, e83, e84, e9, pk_us]) (by simp [shV, shR, shZ, shC, shK, cI, hw1, hw2, fsn, e83, e84, e9, pk_us]) (by simp [shV, shR, shZ, shC, shK, cI, hw1, hw2, fsn, e83, e84, e9, pk_us]) e8 M9 (am_fpT f9 (am_fpU (show ¬ (84 < 69 ∨ 92 ≤ 84) by omega) (am_fpU (show ¬ (83 < 69 ∨ 92 ≤ 83) by omega) am_fp0)))
      · refine aw_re (S' := [.int 1]) rfl ?_
        refine aw_if_eq (npc := 16) (tgt := 26) dX8_sheet_13 rfl (by decide) (fun hc => absurd hc (by decide)) (fun _ => ?_)
        refine aw_iload_n (npc := 17) rfl dX8_sheet_16 rfl ?_
        refine aw_if_lt (npc := 20) (tgt := 29) dX8_sheet_17 rfl (by decide) (fun hc => absurd hc (by decide)) (fun _ => ?_)
        refine aw_iload_n (npc := 21) rfl dX8_sheet_20 rfl ?_
        refine aw_bipush (npc := 23) (v := 24) (by decide) dX8_sheet_21 rfl ?_
        refine aw_icmp_le (npc := 26) (tgt := 29) dX8_sheet_23 rfl (by decide) (fun hc5 => ?_) (fun hc5 => ?_)
        · refine aw_iload_n (npc := 30) rfl dX8_sheet_29 rfl ?_
          refine aw_if_lt (npc := 33) (tgt := 41) dX8_sheet_30 rfl (by decide) (fun hc => absurd hc (by decide)) (fun _ => ?_)
          refine aw_iload_n (npc := 34) rfl dX8_sheet_33 rfl ?_
          refine aw_if_ge (npc := 37) (tgt := 41) dX8_sheet_34 rfl (by decide) (fun hc6 => ?_) (fun hc6 => ?_)
          · refine aw_aload_n (npc := 42) rfl dX8_sheet_41 rfl ?_
            refine aw_get (npc := 45) dX8_sheet_42 rfl kf_X8_55 F.1 rfl ?_
            refine aw_iload_n (npc := 46) rfl dX8_sheet_45 rfl ?_
            refine aw_iload_n (npc := 47) rfl dX8_sheet_46 rfl ?_
            refine aw_iast (npc := 48) (j := sn) dX8_sheet_47 rfl F.2.2.2.2.2.2.2.2.2.2.2.2.2.2.1 (am_ix_nI (by omega)) (by rw [tl_len]; omega) rfl ?_
            have F7 := mr_83 (j := sn) (v := 0) F
            refine aw_aload_n (npc := 49) rfl dX8_sheet_48 rfl ?_
            refine aw_get (npc := 52) dX8_sheet_49 rfl kf_X8_58 F7.1 rfl ?_
            refine aw_iload_n (npc := 53) rfl dX8_sheet_52 rfl ?_
            refine aw_iload_n (npc := 54) rfl dX8_sheet_53 rfl ?_
            refine aw_if_ge (npc := 57) (tgt := 61) dX8_sheet_54 rfl (by decide) (fun _ => ?_) (fun hc => absurd (by decide) hc)
            refine aw_iload_n (npc := 62) rfl dX8_sheet_61 rfl ?_
            refine aw_iast (npc := 63) (j := sn) dX8_sheet_62 rfl F7.2.2.2.2.2.2.2.2.2.2.2.2.2.2.2.1 (am_ix_nI (by omega)) (by rw [tl_len]; omega) rfl ?_
            have F8 := mr_84 (j := sn) (v := m) F7
            refine aw_iconst (npc := 64) (v := 0) (by decide) dX8_sheet_63 rfl ?_
            refine aw_istore (npc := 66) (L' := [some (.ref 69), some (.int (nI sn)), some (.int 0), some (.int m), some (.int 0)]) dX8_sheet_64 rfl (by decide) rfl rfl ?_
            refine aw_locs (L' := [some (.ref 69), some (.int (nI sn)), some (.int 0), some (.int m), some (.int (nI 0))]) rfl ?_
            refine m_sheetL (s := sn) (cl := a 85) (by omega) 24 0 (by omega) _ _ F8 clr_0.symm (fun a9 h9 M9 e9 c9 f9 => ?_)
            have e83 : a9 83 = upd (a 83) sn 0 := c9 83 (by decide)
            have e84 : a9 84 = upd (a 84) sn m := c9 84 (by decide)
            have e8 : ∀ c, c ≠ 83 → c ≠ 84 → c ≠ 85 → a9 c = a c := fun c h1 h2 h3 => (c9 c h3).trans ((aup_n h2).trans (aup_n h1))
            refine aw_aload_n (npc := 93) rfl dX8_sheet_92 rfl ?_
            refine aw_get (npc := 96) dX8_sheet_93 rfl kf_X8_58 M9.1 rfl ?_
            refine aw_iload_n (npc := 97) rfl dX8_sheet_96 rfl ?_
            refine aw_iald (npc := 98) (x := (a9 84) sn) (j := sn) dX8_sheet_97 rfl M9.2.2.2.2.2.2.2.2.2.2.2.2.2.2.2.1 (am_ix_nI (by omega)) (tl_at (by omega)) ?_
            refine aw_iret rfl dX8_sheet_98 ?_
            exact hq _ _ _ (by simp [shV, shR, shZ, shC, shK, cI, hw1, hw2, hc5, hc6, fsn, Int32.not_lt.mpr hc5, Int32.not_lt.mpr hc6, e83, e84, e9, pk_us]) (by simp [shV, shR, shZ, shC, shK, cI, hw1, hw2, hc5, hc6, fsn, Int32.not_lt.mpr hc5, Int32.not_lt.mpr hc6, e83, e84, e9, pk_us]) (by simp [shV, shR, shZ, shC, shK, cI, hw1, hw2, hc5, hc6, fsn, Int32.not_lt.mpr hc5, Int32.not_lt.mpr hc6, e83, e84, e9, pk_us]) (by simp [shV, shR, shZ, shC, shK, cI, hw1, hw2, hc5, hc6, fsn, Int32.not_lt.mpr hc5, Int32.not_lt.mpr hc6, e83, e84, e9, pk_us]) e8 M9 (am_fpT f9 (am_fpU (show ¬ (84 < 69 ∨ 92 ≤ 84) by omega) (am_fpU (show ¬ (83 < 69 ∨ 92 ≤ 83) by omega) am_fp0)))
          · refine aw_ldcw (npc := 40) kc_X8_258 dX8_sheet_37 rfl ?_
            refine aw_iret rfl dX8_sheet_40 ?_
            exact hq _ _ _ (by simp [shV, shR, shZ, shC, shK, cI, hw1, hw2, hc5, hc6, fsn, Int32.not_lt.mpr hc5, Int32.not_le.mp hc6]) (by simp [shV, shR, shZ, shC, shK, cI, hw1, hw2, hc5, hc6, fsn, Int32.not_lt.mpr hc5, Int32.not_le.mp hc6]) (by simp [shV, shR, shZ, shC, shK, cI, hw1, hw2, hc5, hc6, fsn, Int32.not_lt.mpr hc5, Int32.not_le.mp hc6]) (by simp [shV, shR, shZ, shC, shK, cI, hw1, hw2, hc5, hc6, fsn, Int32.not_lt.mpr hc5, Int32.not_le.mp hc6]) (fun _ _ _ _ => rfl) F am_fp0
        · refine aw_ldc (npc := 28) kc_X8_91 dX8_sheet_26 rfl ?_
          refine aw_iret rfl dX8_sheet_28 ?_
          exact hq _ _ _ (by simp [shV, shR, shZ, shC, shK, cI, hw1, hw2, hc5, fsn, Int32.not_le.mp hc5]) (by simp [shV, shR, shZ, shC, shK, cI, hw1, hw2, hc5, fsn, Int32.not_le.mp hc5]) (by simp [shV, shR, shZ, shC, shK, cI, hw1, hw2, hc5, fsn, Int32.not_le.mp hc5]) (by simp [shV, shR, shZ, shC, shK, cI, hw1, hw2, hc5, fsn, Int32.not_le.mp hc5]) (fun _ _ _ _ => rfl) F am_fp0
      · refine aw_re (S' := [.int 1]) rfl ?_
        refine aw_if_eq (npc := 16) (tgt := 26) dX8_sheet_13 rfl (by decide) (fun hc => absurd hc (by decide)) (fun _ => ?_)
        refine aw_iload_n (npc := 17) rfl dX8_sheet_16 rfl ?_
        refine aw_if_lt (npc := 20) (tgt := 29) dX8_sheet_17 rfl (by decide) (fun hc => absurd hc (by decide)) (fun _ => ?_)
        refine aw_iload_n (npc := 21) rfl dX8_sheet_20 rfl ?_
        refine aw_bipush (npc := 23) (v := 24) (by decide) dX8_sheet_21 rfl ?_
        refine aw_icmp_le (npc := 26) (tgt := 29) dX8_sheet_23 rfl (by decide) (fun hc9 => ?_) (fun hc9 => ?_)
        · refine aw_iload_n (npc := 30) rfl dX8_sheet_29 rfl ?_
          refine aw_if_lt (npc := 33) (tgt := 41) dX8_sheet_30 rfl (by decide) (fun hc => absurd hc (by decide)) (fun _ => ?_)
          refine aw_iload_n (npc := 34) rfl dX8_sheet_33 rfl ?_
          refine aw_if_ge (npc := 37) (tgt := 41) dX8_sheet_34 rfl (by decide) (fun hc10 => ?_) (fun hc10 => ?_)
          · refine aw_aload_n (npc := 42) rfl dX8_sheet_41 rfl ?_
            refine aw_get (npc := 45) dX8_sheet_42 rfl kf_X8_55 F.1 rfl ?_
            refine aw_iload_n (npc := 46) rfl dX8_sheet_45 rfl ?_
            refine aw_iload_n (npc := 47) rfl dX8_sheet_46 rfl ?_
            refine aw_iast (npc := 48) (j := sn) dX8_sheet_47 rfl F.2.2.2.2.2.2.2.2.2.2.2.2.2.2.1 (am_ix_nI (by omega)) (by rw [tl_len]; omega) rfl ?_
            have F11 := mr_83 (j := sn) (v := 1) F
            refine aw_aload_n (npc := 49) rfl dX8_sheet_48 rfl ?_
            refine aw_get (npc := 52) dX8_sheet_49 rfl kf_X8_58 F11.1 rfl ?_
            refine aw_iload_n (npc := 53) rfl dX8_sheet_52 rfl ?_
            refine aw_iload_n (npc := 54) rfl dX8_sheet_53 rfl ?_
            refine aw_if_ge (npc := 57) (tgt := 61) dX8_sheet_54 rfl (by decide) (fun _ => ?_) (fun hc => absurd (by decide) hc)
            refine aw_iload_n (npc := 62) rfl dX8_sheet_61 rfl ?_
            refine aw_iast (npc := 63) (j := sn) dX8_sheet_62 rfl F11.2.2.2.2.2.2.2.2.2.2.2.2.2.2.2.1 (am_ix_nI (by omega)) (by rw [tl_len]; omega) rfl ?_
            have F12 := mr_84 (j := sn) (v := m) F11
            refine aw_iconst (npc := 64) (v := 0) (by decide) dX8_sheet_63 rfl ?_
            refine aw_istore (npc := 66) (L' := [some (.ref 69), some (.int (nI sn)), some (.int 1), some (.int m), some (.int 0)]) dX8_sheet_64 rfl (by decide) rfl rfl ?_
            refine aw_locs (L' := [some (.ref 69), some (.int (nI sn)), some (.int 1), some (.int m), some (.int (nI 0))]) rfl ?_
            refine m_sheetL (s := sn) (cl := a 85) (by omega) 24 0 (by omega) _ _ F12 clr_0.symm (fun a9 h9 M9 e9 c9 f9 => ?_)
            have e83 : a9 83 = upd (a 83) sn 1 := c9 83 (by decide)
            have e84 : a9 84 = upd (a 84) sn m := c9 84 (by decide)
            have e8 : ∀ c, c ≠ 83 → c ≠ 84 → c ≠ 85 → a9 c = a c := fun c h1 h2 h3 => (c9 c h3).trans ((aup_n h2).trans (aup_n h1))
            refine aw_aload_n (npc := 93) rfl dX8_sheet_92 rfl ?_
            refine aw_get (npc := 96) dX8_sheet_93 rfl kf_X8_58 M9.1 rfl ?_
            refine aw_iload_n (npc := 97) rfl dX8_sheet_96 rfl ?_
            refine aw_iald (npc := 98) (x := (a9 84) sn) (j := sn) dX8_sheet_97 rfl M9.2.2.2.2.2.2.2.2.2.2.2.2.2.2.2.1 (am_ix_nI (by omega)) (tl_at (by omega)) ?_
            refine aw_iret rfl dX8_sheet_98 ?_
            exact hq _ _ _ (by simp [shV, shR, shZ, shC, shK, cI, hw1, hw2, hc9, hc10, fsn, Int32.not_lt.mpr hc9, Int32.not_lt.mpr hc10, e83, e84, e9, pk_us]) (by simp [shV, shR, shZ, shC, shK, cI, hw1, hw2, hc9, hc10, fsn, Int32.not_lt.mpr hc9, Int32.not_lt.mpr hc10, e83, e84, e9, pk_us]) (by simp [shV, shR, shZ, shC, shK, cI, hw1, hw2, hc9, hc10, fsn, Int32.not_lt.mpr hc9, Int32.not_lt.mpr hc10, e83, e84, e9, pk_us]) (by simp [shV, shR, shZ, shC, shK, cI, hw1, hw2, hc9, hc10, fsn, Int32.not_lt.mpr hc9, Int32.not_lt.mpr hc10, e83, e84, e9, pk_us]) e8 M9 (am_fpT f9 (am_fpU (show ¬ (84 < 69 ∨ 92 ≤ 84) by omega) (am_fpU (show ¬ (83 < 69 ∨ 92 ≤ 83) by omega) am_fp0)))
          · refine aw_ldcw (npc := 40) kc_X8_258 dX8_sheet_37 rfl ?_
            refine aw_iret rfl dX8_sheet_40 ?_
            exact hq _ _ _ (by simp [shV, shR, shZ, shC, shK, cI, hw1, hw2, hc9, hc10, fsn, Int32.not_lt.mpr hc9, Int32.not_le.mp hc10]) (by simp [shV, shR, shZ, shC, shK, cI, hw1, hw2, hc9, hc10, fsn, Int32.not_lt.mpr hc9, Int32.not_le.mp hc10]) (by simp [shV, shR, shZ, shC, shK, cI, hw1, hw2, hc9, hc10, fsn, Int32.not_lt.mpr hc9, Int32.not_le.mp hc10]) (by simp [shV, shR, shZ, shC, shK, cI, hw1, hw2, hc9, hc10, fsn, Int32.not_lt.mpr hc9, Int32.not_le.mp hc10]) (fun _ _ _ _ => rfl) F am_fp0
        · refine aw_ldc (npc := 28) kc_X8_91 dX8_sheet_26 rfl ?_
          refine aw_iret rfl dX8_sheet_28 ?_
          exact hq _ _ _ (by simp [shV, shR, shZ, shC, shK, cI, hw1, hw2, hc9, fsn, Int32.not_le.mp hc9]) (by simp [shV, shR, shZ, shC, shK, cI, hw1, hw2, hc9, fsn, Int32.not_le.mp hc9]) (by simp [shV, shR, shZ, shC, shK, cI, hw1, hw2, hc9, fsn, Int32.not_le.mp hc9]) (by simp [shV, shR, shZ, shC, shK, cI, hw1, hw2, hc9, fsn, Int32.not_le.mp hc9]) (fun _ _ _ _ => rfl) F am_fp0
    · refine aw_re (S' := [.int 0]) rfl ?_
      refine aw_if_eq (npc := 16) (tgt := 26) dX8_sheet_13 rfl (by decide) (fun _ => ?_) (fun hc => absurd (by decide) hc)
      refine aw_ldc (npc := 28) kc_X8_91 dX8_sheet_26 rfl ?_
      refine aw_iret rfl dX8_sheet_28 ?_
      exact hq _ _ _ (by simp [shV, shR, shZ, shC, shK, cI, hw1, hw2, fsn, nwi_1 hw2 (k := -1) ⟨by decide, by decide⟩, nwi_1 hw2 (k := 0) ⟨by decide, by decide⟩, nwi_1 hw2 (k := 1) ⟨by decide, by decide⟩]) (by simp [shV, shR, shZ, shC, shK, cI, hw1, hw2, fsn, nwi_1 hw2 (k := -1) ⟨by decide, by decide⟩, nwi_1 hw2 (k := 0) ⟨by decide, by decide⟩, nwi_1 hw2 (k := 1) ⟨by decide, by decide⟩]) (by simp [shV, shR, shZ, shC, shK, cI, hw1, hw2, fsn, nwi_1 hw2 (k := -1) ⟨by decide, by decide⟩, nwi_1 hw2 (k := 0) ⟨by decide, by decide⟩, nwi_1 hw2 (k := 1) ⟨by decide, by decide⟩]) (by simp [shV, shR, shZ, shC, shK, cI, hw1, hw2, fsn, nwi_1 hw2 (k := -1) ⟨by decide, by decide⟩, nwi_1 hw2 (k := 0) ⟨by decide, by decide⟩, nwi_1 hw2 (k := 1) ⟨by decide, by decide⟩]) (fun _ _ _ _ => rfl) F am_fp0
  · refine aw_re (S' := [.int 0]) rfl ?_
    refine aw_if_eq (npc := 7) (tgt := 26) dX8_sheet_4 rfl (by decide) (fun _ => ?_) (fun hc => absurd (by decide) hc)
    refine aw_ldc (npc := 28) kc_X8_91 dX8_sheet_26 rfl ?_
    refine aw_iret rfl dX8_sheet_28 ?_
    exact hq _ _ _ (by simp [shV, shR, shZ, shC, shK, cI, hw1]) (by simp [shV, shR, shZ, shC, shK, cI, hw1]) (by simp [shV, shR, shZ, shC, shK, cI, hw1]) (by simp [shV, shR, shZ, shC, shK, cI, hw1]) (fun _ _ _ _ => rfl) F am_fp0
