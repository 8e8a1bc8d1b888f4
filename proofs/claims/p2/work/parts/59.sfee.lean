set_option maxHeartbeats 4000000 in
set_option maxRecDepth 100000 in
theorem C_posts {X : List Int32} {d rc rs n : Nat} {Q : am_Q} {h : am_H} {N : Nat → Int32} {tx : List Value} {lk mv : Nat → Int32} {ik wc : Int32} {fr c : Nat} {v : Int32} {tb : TB} (O : OB ik wc h) (F : QR 1 N tx lk mv h) (G : TT tb h) (hR : RG N fr c) (hv : TXv tb.1 c tx) (k1 : ¬ wi v 1 100 → Q (some (.int (-1000000001))) n h) (k0 : ∀ vn pp, wi v 1 100 → vn ≤ 100 → pp ≤ 9999 → v = nI vn → N 2 = nI pp → ∀ N9 s9 mv9 h9, runR fr tb tx lk (-1) (min vn (9999 - pp)) N 0 N9 s9 → QR 1 (upd N9 2 (N9 2 + nI (min vn (9999 - pp)))) tx lk mv9 h9 → TT tb h9 → am_fp (fun k => k < 92 ∧ (k < 1 ∨ 13 ≤ k)) h9 h → Q (some (.int s9)) n h9) : AW X mX7_posts (d + 30) rc rs 0 [some (.ref 0), some (.int v)] [] n h Q := by
  have h8r := hR.2.1
  have h14r := hR.2.2.2.1
  obtain ⟨pp, hpp, epp⟩ := wi_nI (H := 9999) (by decide) (by decide) hR.2.2.2.2.2.2.2.2.1
  refine aw_iload_n (npc := 1) rfl dX7_posts_0 rfl ?_
  refine aw_iconst (npc := 2) (v := 1) (by decide) dX7_posts_1 rfl ?_
  refine aw_bipush (npc := 4) (v := 100) (by decide) dX7_posts_2 rfl ?_
  refine aw_callS (npc := 7) (N := mX7_within) (mc := 0) (ms := 0) (A := [.int v, .int 1, .int 100]) (S := []) (L0 := [some (.int v), some (.int 1), some (.int 100)]) dX7_posts_4 rfl km_X7_within kk_X7_74 rfl ⟨rfl, by decide⟩ rfl (Nat.le_of_ble_eq_true rfl) (Nat.zero_add _) (Nat.zero_add _) rfl ?_
  refine c_X7_within (fun hw1 => ?_) (fun hw1 => ?_)
  · obtain ⟨vn, hvn, evn⟩ := wi_nI (H := 100) (by decide) (by decide) hw1
    subst evn
    have fvn : fN (nI vn) = vn := fN_nI (by omega)
    refine aw_re (S' := [.int 1]) rfl ?_
    refine aw_if_ne (npc := 10) (tgt := 13) dX7_posts_7 rfl (by decide) (fun _ => ?_) (fun hc => absurd hc (by decide))
    refine aw_aload_n (npc := 14) rfl dX7_posts_13 rfl ?_
    refine aw_get (npc := 17) dX7_posts_14 rfl kf_X7_10 O.1 rfl ?_
    refine aw_iload_n (npc := 18) rfl dX7_posts_17 rfl ?_
    refine aw_sipush (npc := 21) (v := 9999) (by decide) dX7_posts_18 rfl ?_
    refine aw_aload_n (npc := 22) rfl dX7_posts_21 rfl ?_
    refine aw_get (npc := 25) dX7_posts_22 rfl kf_X7_10 O.1 rfl ?_
    refine aw_get (npc := 28) dX7_posts_25 rfl kf_X7_160 F.1 rfl ?_
    refine aw_top (y := nI pp) (epp) ?_
    refine aw_isubV (npc := 29) (v := nI (9999 - pp)) dX7_posts_28 rfl (pk_sub (a := 9999) (by omega)) ?_
    refine aw_mmin (npc := 32) dX7_posts_29 rfl kmm_X7_148 kmx_min (Nat.le_of_ble_eq_true rfl) ?_
    refine aw_top (y := nI (min vn (9999 - pp))) (min_nI (by omega) (by omega)) ?_
    refine aw_iconst (npc := 33) (v := -1) (by decide) dX7_posts_32 rfl ?_
    refine aw_callV (npc := 36) (N := mX0_runPosts) (b := 1) (mc := 0) (ms := 0) (A := [.int (nI (min vn (9999 - pp))), .int (-1)]) (S := []) (L0 := [some (.ref 1), some (.int (nI (min vn (9999 - pp)))), some (.int (-1)), none, none]) dX7_posts_33 rfl km_X0_runPosts kk_X7_163 F.1 ⟨by decide, rfl⟩ rfl ⟨rfl, by decide⟩ rfl (Nat.le_of_ble_eq_true rfl) (Nat.zero_add _) (Nat.zero_add _) rfl ?_
    refine g_run (b := 1) (K := (min vn (9999 - pp))) (wo := (-1)) F G hR.1 h8r hR.2.2.1 hv (rg_wk hR) (by omega) (by omega) (fun N92 s93 m94 h95 hr6 F7 G8 fz9 => ?_)
    have fy10 : ∀ k, (k < 92 ∧ (k < 1 ∨ 1 + 12 ≤ k)) → h95 k = _ := fun k hk => fz9 k hk.1 hk.2
    have O11 := ob_frame O (fy10 0 (by omega)) (fy10 43 (by omega)) (fy10 44 (by omega))
    refine aw_re (S' := [.int s93]) rfl ?_
    refine aw_iret rfl dX7_posts_36 ?_
    exact k0 vn pp hw1 hvn hpp rfl epp _ _ _ _ hr6 F7 G8 (am_fpT (fun k (hk : k < 92 ∧ (k < 1 ∨ 13 ≤ k)) => fy10 k (by omega)) am_fp0)
  · refine aw_re (S' := [.int 0]) rfl ?_
    refine aw_if_ne (npc := 10) (tgt := 13) dX7_posts_7 rfl (by decide) (fun hc => absurd (by decide) hc) (fun _ => ?_)
    refine aw_ldc (npc := 12) kc_X7_78 dX7_posts_10 rfl ?_
    refine aw_iret rfl dX7_posts_12 ?_
    exact k1 hw1
theorem wn_min {a b : Nat} (ha : a < 1000000) (hb : b < 1000000) : wn (nI a) 0 (nI b) = nI (min b a) := by
  unfold wn
  rw [if_neg (nI_pos (by omega))]
  by_cases q : b < a
  · rw [if_pos ((nI_ltI (by omega) (by omega)).mpr q), show min b a = b by omega]
  · rw [if_neg (fun z => q ((nI_ltI (by omega) (by omega)).mp z)), show min b a = a by omega]
theorem mi_rg {N : Nat → Int32} {fr c : Nat} (hR : RG N fr c) (hT : TXM N c) : MI N c fr := ⟨hT, hR.1, hR.2.1, fun f hf => ⟨(hR.2.2.2.2.1 f (by have z := hR.2.1; omega)).1, (hR.2.2.2.2.1 f (by have z := hR.2.1; omega)).2.1⟩⟩
set_option maxHeartbeats 4000000 in
set_option maxRecDepth 100000 in
theorem M_posts {X : List Int32} {d rc rs n : Nat} {Q : am_Q} {h : am_H} {o N : Nat → Int32} {a : Nat → Nat → Int32} {fr c : Nat} {v : Int32} (F : MR o N a h) (hR : RG N fr c) (hT : TXM N c) (k1 : ¬ wi v 1 100 → Q (some (.int (-1000000001))) n h) (k0 : ∀ vn pp, wi v 1 100 → vn ≤ 100 → pp ≤ 9999 → v = nI vn → N 2 = nI pp → ∀ o9 N9 a9 h9, gOn c fr (o 4) (min vn (9999 - pp)) N N9 → MR o9 N9 a9 h9 → ol6 o9 o → al3 a9 a → am_fp (fun k => k < 69 ∨ 92 ≤ k) h9 h → Q (some (.int (sumM 26 N9 fr 0 0 - sumM 26 N fr 0 0))) n h9) : AW X mX8_posts (d + 30) rc rs 0 [some (.ref 69), some (.int v), none] [] n h Q := by
  have h8r := hR.2.1
  have h14r := hR.2.2.2.1
  obtain ⟨pp, hpp, epp⟩ := wi_nI (H := 9999) (by decide) (by decide) hR.2.2.2.2.2.2.2.2.1
  refine aw_iload_n (npc := 1) rfl dX8_posts_0 rfl ?_
  refine aw_iconst (npc := 2) (v := 1) (by decide) dX8_posts_1 rfl ?_
  refine aw_bipush (npc := 4) (v := 100) (by decide) dX8_posts_2 rfl ?_
  refine aw_callS (npc := 7) (N := mX8_in) (mc := 0) (ms := 0) (A := [.int v, .int 1, .int 100]) (S := []) (L0 := [some (.int v), some (.int 1), some (.int 100)]) dX8_posts_4 rfl km_X8_in kk_X8_83 rfl ⟨rfl, by decide⟩ rfl (Nat.le_of_ble_eq_true rfl) (Nat.zero_add _) (Nat.zero_add _) rfl ?_
  refine c_X8_in (fun hw1 => ?_) (fun hw1 => ?_)
  · obtain ⟨vn, hvn, evn⟩ := wi_nI (H := 100) (by decide) (by decide) hw1
    subst evn
    have fvn : fN (nI vn) = vn := fN_nI (by omega)
    refine aw_re (S' := [.int 1]) rfl ?_
    refine aw_if_ne (npc := 10) (tgt := 13) dX8_posts_7 rfl (by decide) (fun _ => ?_) (fun hc => absurd hc (by decide))
    refine aw_aload_n (npc := 14) rfl dX8_posts_13 rfl ?_
    refine aw_iconst (npc := 15) (v := 4) (by decide) dX8_posts_14 rfl ?_
    refine aw_callV (npc := 18) (N := mX8_sumOf) (b := 69) (mc := 0) (ms := 0) (A := [.int 4]) (S := []) (L0 := [some (.ref 69), some (.int 4), none, none]) dX8_posts_15 rfl km_X8_sumOf kk_X8_160 F.1 ⟨by decide, rfl⟩ rfl ⟨rfl, by decide⟩ rfl (Nat.le_of_ble_eq_true rfl) (Nat.zero_add _) (Nat.zero_add _) rfl ?_
    refine m_sumY F hR.1 h8r ?_
    refine aw_re (S' := [.int (sumM 26 N fr 0 0)]) rfl ?_
    refine aw_istore_n (npc := 19) (L' := [some (.ref 69), some (.int (nI vn)), some (.int (sumM 26 N fr 0 0))]) dX8_posts_18 rfl (by decide) rfl rfl ?_
    refine aw_aload_n (npc := 20) rfl dX8_posts_19 rfl ?_
    refine aw_sipush (npc := 23) (v := 9999) (by decide) dX8_posts_20 rfl ?_
    refine aw_aload_n (npc := 24) rfl dX8_posts_23 rfl ?_
    refine aw_get (npc := 27) dX8_posts_24 rfl kf_X8_9 F.1 rfl ?_
    refine aw_iconst (npc := 28) (v := 2) (by decide) dX8_posts_27 rfl ?_
    refine aw_iald (npc := 29) (x := N 2) (j := 2) dX8_posts_28 rfl F.2.1 ⟨by decide, by decide⟩ (tl_at (by omega)) ?_
    refine aw_top (y := nI pp) (epp) ?_
    refine aw_isubV (npc := 30) (v := nI (9999 - pp)) dX8_posts_29 rfl (pk_sub (a := 9999) (by omega)) ?_
    refine aw_iconst (npc := 31) (v := 0) (by decide) dX8_posts_30 rfl ?_
    refine aw_iload_n (npc := 32) rfl dX8_posts_31 rfl ?_
    refine aw_callS (npc := 35) (N := mX8_within) (mc := 0) (ms := 0) (A := [.int (nI (9999 - pp)), .int 0, .int (nI vn)]) (S := [.ref 69]) (L0 := [some (.int (nI (9999 - pp))), some (.int 0), some (.int (nI vn))]) dX8_posts_32 rfl km_X8_within kk_X8_108 rfl ⟨rfl, by decide⟩ rfl (Nat.le_of_ble_eq_true rfl) (Nat.zero_add _) (Nat.zero_add _) rfl ?_
    refine m_within ?_
    refine aw_re (S' := [.int (wn (nI (9999 - pp)) 0 (nI vn)), .ref 69]) rfl ?_
    refine aw_top (y := nI (min vn (9999 - pp))) (wn_min (by omega) (by omega)) ?_
    refine aw_callV (npc := 38) (N := mX8_goesOn) (b := 69) (mc := 0) (ms := 0) (A := [.int (nI (min vn (9999 - pp)))]) (S := []) (L0 := [some (.ref 69), some (.int (nI (min vn (9999 - pp)))), none]) dX8_posts_35 rfl km_X8_goesOn kk_X8_163 F.1 ⟨by decide, rfl⟩ rfl ⟨rfl, by decide⟩ rfl (Nat.le_of_ble_eq_true rfl) (Nat.zero_add _) (Nat.zero_add _) rfl ?_
    refine m_go (p := (min vn (9999 - pp))) (c := c) (fr := fr) (by omega) F (mi_rg hR hT) (fun o92 N93 a94 h95 hr6 F7 ol8 al9 fz10 => ?_)
    refine aw_aload_n (npc := 39) rfl dX8_posts_38 rfl ?_
    refine aw_iconst (npc := 40) (v := 4) (by decide) dX8_posts_39 rfl ?_
    refine aw_callV (npc := 43) (N := mX8_sumOf) (b := 69) (mc := 0) (ms := 0) (A := [.int 4]) (S := []) (L0 := [some (.ref 69), some (.int 4), none, none]) dX8_posts_40 rfl km_X8_sumOf kk_X8_160 F7.1 ⟨by decide, rfl⟩ rfl ⟨rfl, by decide⟩ rfl (Nat.le_of_ble_eq_true rfl) (Nat.zero_add _) (Nat.zero_add _) rfl ?_
    refine m_sumY F7 ((gOn_keep h8r _ _ _ hr6 1 (by decide) (by decide) (by decide) (by decide) (by decide) (fun f hf => by omega)).trans hR.1) h8r ?_
    refine aw_re (S' := [.int (sumM 26 N93 fr 0 0)]) rfl ?_
    refine aw_iload_n (npc := 44) rfl dX8_posts_43 rfl ?_
    refine aw_isub (npc := 45) dX8_posts_44 rfl ?_
    refine aw_iret rfl dX8_posts_45 ?_
    exact k0 vn pp hw1 hvn hpp rfl epp _ _ _ _ hr6 F7 ol8 al9 (am_fpT (fun k (hk : k < 69 ∨ 92 ≤ k) => fz10 k (by omega)) am_fp0)
  · refine aw_re (S' := [.int 0]) rfl ?_
    refine aw_if_ne (npc := 10) (tgt := 13) dX8_posts_7 rfl (by decide) (fun hc => absurd (by decide) hc) (fun _ => ?_)
    refine aw_ldc (npc := 12) kc_X8_91 dX8_posts_10 rfl ?_
    refine aw_iret rfl dX8_posts_12 ?_
    exact k1 hw1
def TVr (key : Nat) (tb : TB) (tx : List Value) (lk N : Nat → Int32) (x y z w v : Int32) : Prop := (¬ wi (lk key) 0 (N 7 - 1) ∧ v = w) ∨ ∃ t a sf, wi (lk key) 0 (N 7 - 1) ∧ lk key = nI t ∧ a < tb.1 ∧ tx[t]? = some (.ref (92 + 3 * a)) ∧ v = (wcM x y z (tb.2.2.2.2.2 a) (tb.2.2.2.2.1 a) (tb.2.2.2.1 a) 0 (sf, 0)).1 0
def MVr (key : Int32) (N : Nat → Int32) (c : Nat) (x y w v : Int32) : Prop := (cntM key N c = none ∧ v = w) ∨ ∃ t lc ky sf fa, cntM key N c = some t ∧ ky ≤ 2 ∧ lc ≤ 96 ∧ N (62 + 2 * t) = nI (1000 * ky + lc) ∧ fa 0 = x ∧ fa 1 = y ∧ v = (mwM fa (fun z9 => N (90 + 96 * t + z9)) lc 0 (sf, 0)).1 0
set_option maxHeartbeats 4000000 in
set_option maxRecDepth 100000 in
theorem C_fee {X : List Int32} {d rc rs n : Nat} {Q : am_Q} {h : am_H} {N : Nat → Int32} {tx : List Value} {lk mv : Nat → Int32} {ik wc : Int32} {fr c : Nat} {tb : TB} (O : OB ik wc h) (F : QR 1 N tx lk mv h) (G : TT tb h) (hR : RG N fr c) (hv : TXv tb.1 c tx) (hq : ∀ v9 h9, TVr 1 tb tx lk N (N 6) (N 2) 0 (N 6) v9 → QR 1 N tx lk mv h9 → TT tb h9 → am_fp (fun k => k < 92) h9 h → Q (some (.int v9)) n h9) : AW X mX7_fee (d + 12) rc rs 0 [some (.ref 0), none] [] n h Q := by
  have h8r := hR.2.1
  have h14r := hR.2.2.2.1
  refine aw_aload_n (npc := 1) rfl dX7_fee_0 rfl ?_
  refine aw_get (npc := 4) dX7_fee_1 rfl kf_X7_10 O.1 rfl ?_
  refine aw_iconst (npc := 5) (v := 1) (by decide) dX7_fee_4 rfl ?_
  refine aw_callV (npc := 8) (N := mX0_textFor) (b := 1) (mc := 0) (ms := 0) (A := [.int 1]) (S := []) (L0 := [some (.ref 1), some (.int 1), none]) dX7_fee_5 rfl km_X0_textFor kk_X7_224 F.1 ⟨by decide, rfl⟩ rfl ⟨rfl, by decide⟩ rfl (Nat.le_of_ble_eq_true rfl) (Nat.zero_add _) (Nat.zero_add _) rfl ?_
  refine g_textFor1 F hR.2.2.1 hv (fun t a hlk ht ha hta => ?_) (fun hw0 => ?_)
  · refine aw_re (S' := [.ref (92 + 3 * a)]) rfl ?_
    refine aw_astore_n (npc := 9) (L' := [some (.ref 0), some (.ref (92 + 3 * a))]) dX7_fee_8 rfl (by decide) rfl rfl ?_
    refine aw_aload_n (npc := 10) rfl dX7_fee_9 rfl ?_
    refine aw_ifnonnull (npc := 23) dX7_fee_10 (by decide) ?_
    refine aw_aload_n (npc := 24) rfl dX7_fee_23 rfl ?_
    refine aw_aload_n (npc := 25) rfl dX7_fee_24 rfl ?_
    refine aw_get (npc := 28) dX7_fee_25 rfl kf_X7_10 O.1 rfl ?_
    refine aw_get (npc := 31) dX7_fee_28 rfl kf_X7_176 F.1 rfl ?_
    refine aw_aload_n (npc := 32) rfl dX7_fee_31 rfl ?_
    refine aw_get (npc := 35) dX7_fee_32 rfl kf_X7_10 O.1 rfl ?_
    refine aw_get (npc := 38) dX7_fee_35 rfl kf_X7_160 F.1 rfl ?_
    refine aw_iconst (npc := 39) (v := 0) (by decide) dX7_fee_38 rfl ?_
    refine aw_callV (npc := 42) (N := mX5_workOut) (b := 92 + 3 * a) (mc := 0) (ms := 0) (A := [.int (N 6), .int (N 2), .int 0]) (S := []) (L0 := [some (.ref (92 + 3 * a)), some (.int (N 6)), some (.int (N 2)), some (.int 0), none, none, none]) dX7_fee_39 rfl km_X5_workOut kk_X7_228 (G a ha).1 ⟨by decide, rfl⟩ rfl ⟨rfl, by decide⟩ rfl (Nat.le_of_ble_eq_true rfl) (Nat.zero_add _) (Nat.zero_add _) rfl ?_
    obtain ⟨t0, t1, ⟨sf, t2⟩, t3, t4, t5⟩ := G a ha
    refine g_work (a0 := 92 + 3 * a) (a1 := 93 + 3 * a) (a2 := 94 + 3 * a) (by omega) (by omega) t3 t4 t5 t0 t1 t2 (fun sf9 hsf => ?_)
    have G1 := tt_stack (a := a) (sf := sf9) G
    have O2 := ob_out (a := 94 + 3 * a) (c := .inl (0, tl (tb.2.2.2.2.2 a) sf9)) (by omega) O
    have F3 := qr_out (a := 94 + 3 * a) (c := .inl (0, tl (tb.2.2.2.2.2 a) sf9)) (by omega) F
    refine aw_re (S' := [.int (sf9 0)]) rfl ?_
    refine aw_iret rfl dX7_fee_42 ?_
    exact hq _ _ (Or.inr ⟨t, a, sf, wi_idx' hR.2.2.1 (by omega) ht hlk, hlk, ha, hta, by rw [← hsf]⟩) F3 G1 (am_fpU (show ¬ ((94 + 3 * a) < 92) by omega) am_fp0)
  · refine aw_re (S' := [.null]) rfl ?_
    refine aw_astore_nN (npc := 9) (L' := [some (.ref 0), some (.null)]) dX7_fee_8 rfl (by decide) rfl rfl ?_
    refine aw_aload_nN (npc := 10) rfl dX7_fee_9 rfl ?_
    refine aw_ifnonnullN (npc := 13) dX7_fee_10 rfl ?_
    refine aw_aload_n (npc := 14) rfl dX7_fee_13 rfl ?_
    refine aw_get (npc := 17) dX7_fee_14 rfl kf_X7_10 O.1 rfl ?_
    refine aw_get (npc := 20) dX7_fee_17 rfl kf_X7_176 F.1 rfl ?_
    refine aw_goto (npc := 42) dX7_fee_20 (by decide) ?_
    refine aw_iret rfl dX7_fee_42 ?_
    exact hq _ _ (Or.inl ⟨hw0, rfl⟩) F G am_fp0
set_option maxHeartbeats 4000000 in
set_option maxRecDepth 100000 in
theorem C_fine {X : List Int32} {d rc rs n : Nat} {Q : am_Q} {h : am_H} {N : Nat → Int32} {tx : List Value} {lk mv : Nat → Int32} {ik wc : Int32} {fr c : Nat} {f : Int32} {tb : TB} (O : OB ik wc h) (F : QR 1 N tx lk mv h) (G : TT tb h) (hR : RG N fr c) (hv : TXv tb.1 c tx) (k1 : ¬ wi f 0 (N 1 - 1) → Q (some (.int (-1000000001))) n h) (k0 : ∀ j, wi f 0 (N 1 - 1) → f = nI j → j < 8 → ∀ v9 h9, TVr 2 tb tx lk N (N (26 + 5 * j)) (N (25 + 5 * j)) 0 (N (26 + 5 * j)) v9 → QR 1 N tx lk mv h9 → TT tb h9 → am_fp (fun k => k < 92) h9 h → Q (some (.int v9)) n h9) : AW X mX7_fine (d + 12) rc rs 0 [some (.ref 0), some (.int f), none, none] [] n h Q := by
  have h8r := hR.2.1
  have h14r := hR.2.2.2.1
  refine aw_aload_n (npc := 1) rfl dX7_fine_0 rfl ?_
  refine aw_get (npc := 4) dX7_fine_1 rfl kf_X7_10 O.1 rfl ?_
  refine aw_iload_n (npc := 5) rfl dX7_fine_4 rfl ?_
  refine aw_callV (npc := 8) (N := mX0_isFriend) (b := 1) (mc := 0) (ms := 0) (A := [.int f]) (S := []) (L0 := [some (.ref 1), some (.int f)]) dX7_fine_5 rfl km_X0_isFriend kk_X7_87 F.1 ⟨by decide, rfl⟩ rfl ⟨rfl, by decide⟩ rfl (Nat.le_of_ble_eq_true rfl) (Nat.zero_add _) (Nat.zero_add _) rfl ?_
  refine g_isFriend F (fun hw1 => ?_) (fun hw1 => ?_)
  · obtain ⟨fn, hfn, efn⟩ := wi_idx hR.1 (by have z := hR.2.1; omega) hw1
    subst efn
    have h8fn : fn < 8 := by have z := hR.2.1; omega
    have ffn : fN (nI fn) = fn := fN_nI (by omega)
    refine aw_re (S' := [.int 1]) rfl ?_
    refine aw_if_ne (npc := 11) (tgt := 14) dX7_fine_8 rfl (by decide) (fun _ => ?_) (fun hc => absurd hc (by decide))
    refine aw_aload_n (npc := 15) rfl dX7_fine_14 rfl ?_
    refine aw_get (npc := 18) dX7_fine_15 rfl kf_X7_10 O.1 rfl ?_
    refine aw_iconst (npc := 19) (v := 2) (by decide) dX7_fine_18 rfl ?_
    refine aw_callV (npc := 22) (N := mX0_textFor) (b := 1) (mc := 0) (ms := 0) (A := [.int 2]) (S := []) (L0 := [some (.ref 1), some (.int 2), none]) dX7_fine_19 rfl km_X0_textFor kk_X7_224 F.1 ⟨by decide, rfl⟩ rfl ⟨rfl, by decide⟩ rfl (Nat.le_of_ble_eq_true rfl) (Nat.zero_add _) (Nat.zero_add _) rfl ?_
    refine g_textFor2 F hR.2.2.1 hv (fun t a hlk ht ha hta => ?_) (fun hw0 => ?_)
    · refine aw_re (S' := [.ref (92 + 3 * a)]) rfl ?_
      refine aw_astore_n (npc := 23) (L' := [some (.ref 0), some (.int (nI fn)), some (.ref (92 + 3 * a)), none]) dX7_fine_22 rfl (by decide) rfl rfl ?_
      refine aw_aload_n (npc := 24) rfl dX7_fine_23 rfl ?_
      refine aw_get (npc := 27) dX7_fine_24 rfl kf_X7_10 O.1 rfl ?_
      refine aw_get (npc := 30) dX7_fine_27 rfl kf_X7_102 F.1 rfl ?_
      refine aw_iload_n (npc := 31) rfl dX7_fine_30 rfl ?_
      refine aw_iald (npc := 32) (x := N (26 + 5 * fn)) (j := fn) dX7_fine_31 rfl F.2.2.2.2.2.2.2.2.1 (am_ix_nI (by omega)) (tl_at (by omega)) ?_
      refine aw_istore_n (npc := 33) (L' := [some (.ref 0), some (.int (nI fn)), some (.ref (92 + 3 * a)), some (.int (N (26 + 5 * fn)))]) dX7_fine_32 rfl (by decide) rfl rfl ?_
      refine aw_aload_n (npc := 34) rfl dX7_fine_33 rfl ?_
      refine aw_ifnonnull (npc := 41) dX7_fine_34 (by decide) ?_
      refine aw_aload_n (npc := 42) rfl dX7_fine_41 rfl ?_
      refine aw_iload_n (npc := 43) rfl dX7_fine_42 rfl ?_
      refine aw_aload_n (npc := 44) rfl dX7_fine_43 rfl ?_
      refine aw_get (npc := 47) dX7_fine_44 rfl kf_X7_10 O.1 rfl ?_
      refine aw_get (npc := 50) dX7_fine_47 rfl kf_X7_99 F.1 rfl ?_
      refine aw_iload_n (npc := 51) rfl dX7_fine_50 rfl ?_
      refine aw_iald (npc := 52) (x := N (25 + 5 * fn)) (j := fn) dX7_fine_51 rfl F.2.2.2.2.2.2.2.1 (am_ix_nI (by omega)) (tl_at (by omega)) ?_
      refine aw_iconst (npc := 53) (v := 0) (by decide) dX7_fine_52 rfl ?_
      refine aw_callV (npc := 56) (N := mX5_workOut) (b := 92 + 3 * a) (mc := 0) (ms := 0) (A := [.int (N (26 + 5 * fn)), .int (N (25 + 5 * fn)), .int 0]) (S := []) (L0 := [some (.ref (92 + 3 * a)), some (.int (N (26 + 5 * fn))), some (.int (N (25 + 5 * fn))), some (.int 0), none, none, none]) dX7_fine_53 rfl km_X5_workOut kk_X7_228 (G a ha).1 ⟨by decide, rfl⟩ rfl ⟨rfl, by decide⟩ rfl (Nat.le_of_ble_eq_true rfl) (Nat.zero_add _) (Nat.zero_add _) rfl ?_
      obtain ⟨t0, t1, ⟨sf, t2⟩, t3, t4, t5⟩ := G a ha
      refine g_work (a0 := 92 + 3 * a) (a1 := 93 + 3 * a) (a2 := 94 + 3 * a) (by omega) (by omega) t3 t4 t5 t0 t1 t2 (fun sf9 hsf => ?_)
      have G2 := tt_stack (a := a) (sf := sf9) G
      have O3 := ob_out (a := 94 + 3 * a) (c := .inl (0, tl (tb.2.2.2.2.2 a) sf9)) (by omega) O
      have F4 := qr_out (a := 94 + 3 * a) (c := .inl (0, tl (tb.2.2.2.2.2 a) sf9)) (by omega) F
      refine aw_re (S' := [.int (sf9 0)]) rfl ?_
      refine aw_iret rfl dX7_fine_56 ?_
      exact k0 fn hw1 rfl h8fn _ _ (Or.inr ⟨t, a, sf, wi_idx' hR.2.2.1 (by omega) ht hlk, hlk, ha, hta, by rw [← hsf]⟩) F4 G2 (am_fpU (show ¬ ((94 + 3 * a) < 92) by omega) am_fp0)
    · refine aw_re (S' := [.null]) rfl ?_
      refine aw_astore_nN (npc := 23) (L' := [some (.ref 0), some (.int (nI fn)), some (.null), none]) dX7_fine_22 rfl (by decide) rfl rfl ?_
      refine aw_aload_n (npc := 24) rfl dX7_fine_23 rfl ?_
      refine aw_get (npc := 27) dX7_fine_24 rfl kf_X7_10 O.1 rfl ?_
      refine aw_get (npc := 30) dX7_fine_27 rfl kf_X7_102 F.1 rfl ?_
      refine aw_iload_n (npc := 31) rfl dX7_fine_30 rfl ?_
      refine aw_iald (npc := 32) (x := N (26 + 5 * fn)) (j := fn) dX7_fine_31 rfl F.2.2.2.2.2.2.2.2.1 (am_ix_nI (by omega)) (tl_at (by omega)) ?_
      refine aw_istore_n (npc := 33) (L' := [some (.ref 0), some (.int (nI fn)), some (.null), some (.int (N (26 + 5 * fn)))]) dX7_fine_32 rfl (by decide) rfl rfl ?_
      refine aw_aload_nN (npc := 34) rfl dX7_fine_33 rfl ?_
      refine aw_ifnonnullN (npc := 37) dX7_fine_34 rfl ?_
      refine aw_iload_n (npc := 38) rfl dX7_fine_37 rfl ?_
      refine aw_goto (npc := 56) dX7_fine_38 (by decide) ?_
      refine aw_iret rfl dX7_fine_56 ?_
      exact k0 fn hw1 rfl h8fn _ _ (Or.inl ⟨hw0, rfl⟩) F G am_fp0
  · refine aw_re (S' := [.int 0]) rfl ?_
    refine aw_if_ne (npc := 11) (tgt := 14) dX7_fine_8 rfl (by decide) (fun hc => absurd (by decide) hc) (fun _ => ?_)
    refine aw_ldc (npc := 13) kc_X7_78 dX7_fine_11 rfl ?_
    refine aw_iret rfl dX7_fine_13 ?_
    exact k1 hw1
set_option maxHeartbeats 4000000 in
set_option maxRecDepth 100000 in
theorem M_fee {X : List Int32} {d rc rs n : Nat} {Q : am_Q} {h : am_H} {o N : Nat → Int32} {a : Nat → Nat → Int32} {fr c : Nat} (F : MR o N a h) (hR : RG N fr c) (hT : TXM N c) (hq : ∀ v9 a9 h9, MVr 1 N c (N 6) (N 2) (N 6) v9 → MR o N a9 h9 → ak a9 a → am_fp (fun k => k < 69 ∨ 92 ≤ k) h9 h → Q (some (.int v9)) n h9) : AW X mX8_fee (d + 12) rc rs 0 [some (.ref 69), none] [] n h Q := by
  have h8r := hR.2.1
  have h14r := hR.2.2.2.1
  refine aw_aload_n (npc := 1) rfl dX8_fee_0 rfl ?_
  refine aw_iconst (npc := 2) (v := 1) (by decide) dX8_fee_1 rfl ?_
  refine aw_callV (npc := 5) (N := mX8_counts) (b := 69) (mc := 0) (ms := 0) (A := [.int 1]) (S := []) (L0 := [some (.ref 69), some (.int 1), none]) dX8_fee_2 rfl km_X8_counts kk_X8_97 F.1 ⟨by decide, rfl⟩ rfl ⟨rfl, by decide⟩ rfl (Nat.le_of_ble_eq_true rfl) (Nat.zero_add _) (Nat.zero_add _) rfl ?_
  refine m_counts (key := 1) (c := c) F hR.2.2.1 h14r ?_
  cases ec : cntM 1 N c with
  | none =>
    refine aw_re (S' := [.int (-1)]) rfl ?_
    refine aw_istore_n (npc := 6) (L' := [some (.ref 69), some (.int (-1))]) dX8_fee_5 rfl (by decide) rfl rfl ?_
    refine aw_aload_n (npc := 7) rfl dX8_fee_6 rfl ?_
    refine aw_get (npc := 10) dX8_fee_7 rfl kf_X8_52 F.1 rfl ?_
    refine aw_iconst (npc := 11) (v := 0) (by decide) dX8_fee_10 rfl ?_
    refine aw_aload_n (npc := 12) rfl dX8_fee_11 rfl ?_
    refine aw_get (npc := 15) dX8_fee_12 rfl kf_X8_9 F.1 rfl ?_
    refine aw_bipush (npc := 17) (v := 6) (by decide) dX8_fee_15 rfl ?_
    refine aw_iald (npc := 18) (x := N 6) (j := 6) dX8_fee_17 rfl F.2.1 ⟨by decide, by decide⟩ (tl_at (by omega)) ?_
    refine aw_iast (npc := 19) (j := 0) dX8_fee_18 rfl F.2.2.2.2.2.2.2.2.2.2.2.2.2.1 ⟨by decide, by decide⟩ (by rw [tl_len]; omega) rfl ?_
    have F1 := mr_82 (j := 0) (v := N 6) F
    refine aw_aload_n (npc := 20) rfl dX8_fee_19 rfl ?_
    refine aw_get (npc := 23) dX8_fee_20 rfl kf_X8_52 F1.1 rfl ?_
    refine aw_iconst (npc := 24) (v := 1) (by decide) dX8_fee_23 rfl ?_
    refine aw_aload_n (npc := 25) rfl dX8_fee_24 rfl ?_
    refine aw_get (npc := 28) dX8_fee_25 rfl kf_X8_9 F1.1 rfl ?_
    refine aw_iconst (npc := 29) (v := 2) (by decide) dX8_fee_28 rfl ?_
    refine aw_iald (npc := 30) (x := N 2) (j := 2) dX8_fee_29 rfl F1.2.1 ⟨by decide, by decide⟩ (tl_at (by omega)) ?_
    refine aw_iast (npc := 31) (j := 1) dX8_fee_30 rfl F1.2.2.2.2.2.2.2.2.2.2.2.2.2.1 ⟨by decide, by decide⟩ (by rw [tl_len]; omega) rfl ?_
    have F2 := mr_82 (j := 1) (v := N 2) F1
    refine aw_iload_n (npc := 32) rfl dX8_fee_31 rfl ?_
    refine aw_if_ge (npc := 35) (tgt := 45) dX8_fee_32 rfl (by decide) (fun hc => absurd hc (by decide)) (fun _ => ?_)
    refine aw_aload_n (npc := 36) rfl dX8_fee_35 rfl ?_
    refine aw_get (npc := 39) dX8_fee_36 rfl kf_X8_9 F2.1 rfl ?_
    refine aw_bipush (npc := 41) (v := 6) (by decide) dX8_fee_39 rfl ?_
    refine aw_iald (npc := 42) (x := N 6) (j := 6) dX8_fee_41 rfl F2.2.1 ⟨by decide, by decide⟩ (tl_at (by omega)) ?_
    refine aw_goto (npc := 50) dX8_fee_42 (by decide) ?_
    refine aw_iret rfl dX8_fee_50 ?_
    exact hq _ _ _ (Or.inl ⟨ec, rfl⟩) F2 (fun k h1 h2 => (aup_n h2).trans (aup_n h2)) (am_fpU (show ¬ (82 < 69 ∨ 92 ≤ 82) by omega) (am_fpU (show ¬ (82 < 69 ∨ 92 ≤ 82) by omega) am_fp0))
  | some t =>
    obtain ⟨ky, lc, hky, hlc1, hlc, hhd, hvl⟩ := hT.2.2 t (cntM_lt ec).1
    have ht14 : t < 14 := by have z1 := (cntM_lt ec).1; omega
    refine aw_re (S' := [.int (nI t)]) rfl ?_
    refine aw_istore_n (npc := 6) (L' := [some (.ref 69), some (.int (nI t))]) dX8_fee_5 rfl (by decide) rfl rfl ?_
    refine aw_aload_n (npc := 7) rfl dX8_fee_6 rfl ?_
    refine aw_get (npc := 10) dX8_fee_7 rfl kf_X8_52 F.1 rfl ?_
    refine aw_iconst (npc := 11) (v := 0) (by decide) dX8_fee_10 rfl ?_
    refine aw_aload_n (npc := 12) rfl dX8_fee_11 rfl ?_
    refine aw_get (npc := 15) dX8_fee_12 rfl kf_X8_9 F.1 rfl ?_
    refine aw_bipush (npc := 17) (v := 6) (by decide) dX8_fee_15 rfl ?_
    refine aw_iald (npc := 18) (x := N 6) (j := 6) dX8_fee_17 rfl F.2.1 ⟨by decide, by decide⟩ (tl_at (by omega)) ?_
    refine aw_iast (npc := 19) (j := 0) dX8_fee_18 rfl F.2.2.2.2.2.2.2.2.2.2.2.2.2.1 ⟨by decide, by decide⟩ (by rw [tl_len]; omega) rfl ?_
    have F3 := mr_82 (j := 0) (v := N 6) F
    refine aw_aload_n (npc := 20) rfl dX8_fee_19 rfl ?_
    refine aw_get (npc := 23) dX8_fee_20 rfl kf_X8_52 F3.1 rfl ?_
    refine aw_iconst (npc := 24) (v := 1) (by decide) dX8_fee_23 rfl ?_
    refine aw_aload_n (npc := 25) rfl dX8_fee_24 rfl ?_
    refine aw_get (npc := 28) dX8_fee_25 rfl kf_X8_9 F3.1 rfl ?_
    refine aw_iconst (npc := 29) (v := 2) (by decide) dX8_fee_28 rfl ?_
    refine aw_iald (npc := 30) (x := N 2) (j := 2) dX8_fee_29 rfl F3.2.1 ⟨by decide, by decide⟩ (tl_at (by omega)) ?_
    refine aw_iast (npc := 31) (j := 1) dX8_fee_30 rfl F3.2.2.2.2.2.2.2.2.2.2.2.2.2.1 ⟨by decide, by decide⟩ (by rw [tl_len]; omega) rfl ?_
    have F4 := mr_82 (j := 1) (v := N 2) F3
    refine aw_iload_n (npc := 32) rfl dX8_fee_31 rfl ?_
    refine aw_if_ge (npc := 35) (tgt := 45) dX8_fee_32 rfl (by decide) (fun _ => ?_) (fun hc => absurd ((nI_leI (a := 0) (b := t) (by omega) (by omega)).mpr (by omega)) hc)
    refine aw_aload_n (npc := 46) rfl dX8_fee_45 rfl ?_
    refine aw_iload_n (npc := 47) rfl dX8_fee_46 rfl ?_
    refine aw_callV (npc := 50) (N := mX8_worksOut) (b := 69) (mc := 0) (ms := 0) (A := [.int (nI t)]) (S := []) (L0 := [some (.ref 69), some (.int (nI t)), none, none, none, none]) dX8_fee_47 rfl km_X8_worksOut kk_X8_105 F4.1 ⟨by decide, rfl⟩ rfl ⟨rfl, by decide⟩ rfl (Nat.le_of_ble_eq_true rfl) (Nat.zero_add _) (Nat.zero_add _) rfl ?_
    refine m_work F4 ht14 hky hlc hhd hvl rfl (fun a96 hp7 F8 ka9 ew10 fz11 => ?_)
    refine aw_re (S' := [.int (a96 81 0)]) rfl ?_
    refine aw_iret rfl dX8_fee_50 ?_
    exact hq _ _ _ (Or.inr ⟨t, lc, ky, _, _, ec, hky, hlc, hhd, rfl, rfl, congrFun ew10 0⟩) F8 (fun k h1 h2 => (ka9 k h1).trans ((aup_n h2).trans (aup_n h2))) (am_fpT (fun k (hk : k < 69 ∨ 92 ≤ k) => fz11 k (by omega)) (am_fpU (show ¬ (82 < 69 ∨ 92 ≤ 82) by omega) (am_fpU (show ¬ (82 < 69 ∨ 92 ≤ 82) by omega) am_fp0)))
set_option maxHeartbeats 4000000 in
set_option maxRecDepth 100000 in
theorem M_fine {X : List Int32} {d rc rs n : Nat} {Q : am_Q} {h : am_H} {o N : Nat → Int32} {a : Nat → Nat → Int32} {fr c : Nat} {f : Int32} (F : MR o N a h) (hR : RG N fr c) (hT : TXM N c) (k1 : ¬ wi f 0 (N 1 - 1) → Q (some (.int (-1000000001))) n h) (k0 : ∀ j, wi f 0 (N 1 - 1) → f = nI j → j < 8 → ∀ v9 a9 h9, MVr 2 N c (N (26 + 5 * j)) (N (25 + 5 * j)) (N (26 + 5 * j)) v9 → MR o N a9 h9 → ak a9 a → am_fp (fun k => k < 69 ∨ 92 ≤ k) h9 h → Q (some (.int v9)) n h9) : AW X mX8_fine (d + 12) rc rs 0 [some (.ref 69), some (.int f), none] [] n h Q := by
  have h8r := hR.2.1
  have h14r := hR.2.2.2.1
  refine aw_aload_n (npc := 1) rfl dX8_fine_0 rfl ?_
  refine aw_iload_n (npc := 2) rfl dX8_fine_1 rfl ?_
  refine aw_callV (npc := 5) (N := mX8_isFriend) (b := 69) (mc := 0) (ms := 0) (A := [.int f]) (S := []) (L0 := [some (.ref 69), some (.int f)]) dX8_fine_2 rfl km_X8_isFriend kk_X8_114 F.1 ⟨by decide, rfl⟩ rfl ⟨rfl, by decide⟩ rfl (Nat.le_of_ble_eq_true rfl) (Nat.zero_add _) (Nat.zero_add _) rfl ?_
  refine m_isFriend F (fun hw1 => ?_) (fun hw1 => ?_)
  · obtain ⟨fn, hfn, efn⟩ := wi_idx hR.1 (by have z := hR.2.1; omega) hw1
    subst efn
    have h8fn : fn < 8 := by have z := hR.2.1; omega
    have ffn : fN (nI fn) = fn := fN_nI (by omega)
    refine aw_re (S' := [.int 1]) rfl ?_
    refine aw_if_ne (npc := 8) (tgt := 11) dX8_fine_5 rfl (by decide) (fun _ => ?_) (fun hc => absurd hc (by decide))
    refine aw_aload_n (npc := 12) rfl dX8_fine_11 rfl ?_
    refine aw_iconst (npc := 13) (v := 2) (by decide) dX8_fine_12 rfl ?_
    refine aw_callV (npc := 16) (N := mX8_counts) (b := 69) (mc := 0) (ms := 0) (A := [.int 2]) (S := []) (L0 := [some (.ref 69), some (.int 2), none]) dX8_fine_13 rfl km_X8_counts kk_X8_97 F.1 ⟨by decide, rfl⟩ rfl ⟨rfl, by decide⟩ rfl (Nat.le_of_ble_eq_true rfl) (Nat.zero_add _) (Nat.zero_add _) rfl ?_
    refine m_counts (key := 2) (c := c) F hR.2.2.1 h14r ?_
    cases ec : cntM 2 N c with
    | none =>
      refine aw_re (S' := [.int (-1)]) rfl ?_
      refine aw_istore_n (npc := 17) (L' := [some (.ref 69), some (.int (nI fn)), some (.int (-1))]) dX8_fine_16 rfl (by decide) rfl rfl ?_
      refine aw_aload_n (npc := 18) rfl dX8_fine_17 rfl ?_
      refine aw_get (npc := 21) dX8_fine_18 rfl kf_X8_52 F.1 rfl ?_
      refine aw_iconst (npc := 22) (v := 0) (by decide) dX8_fine_21 rfl ?_
      refine aw_aload_n (npc := 23) rfl dX8_fine_22 rfl ?_
      refine aw_iload_n (npc := 24) rfl dX8_fine_23 rfl ?_
      refine aw_iconst (npc := 25) (v := 4) (by decide) dX8_fine_24 rfl ?_
      refine aw_callV (npc := 28) (N := mX8_of) (b := 69) (mc := 0) (ms := 0) (A := [.int (nI fn), .int 4]) (S := [.int 0, .ref 82]) (L0 := [some (.ref 69), some (.int (nI fn)), some (.int 4)]) dX8_fine_25 rfl km_X8_of kk_X8_101 F.1 ⟨by decide, rfl⟩ rfl ⟨rfl, by decide⟩ rfl (Nat.le_of_ble_eq_true rfl) (Nat.zero_add _) (Nat.zero_add _) rfl ?_
      refine m_of4 (f := fn) F (by omega) ?_
      refine aw_re (S' := [.int (N (26 + 5 * fn)), .int 0, .ref 82]) rfl ?_
      refine aw_iast (npc := 29) (j := 0) dX8_fine_28 rfl F.2.2.2.2.2.2.2.2.2.2.2.2.2.1 ⟨by decide, by decide⟩ (by rw [tl_len]; omega) rfl ?_
      have F2 := mr_82 (j := 0) (v := N (26 + 5 * fn)) F
      refine aw_aload_n (npc := 30) rfl dX8_fine_29 rfl ?_
      refine aw_get (npc := 33) dX8_fine_30 rfl kf_X8_52 F2.1 rfl ?_
      refine aw_iconst (npc := 34) (v := 1) (by decide) dX8_fine_33 rfl ?_
      refine aw_aload_n (npc := 35) rfl dX8_fine_34 rfl ?_
      refine aw_iload_n (npc := 36) rfl dX8_fine_35 rfl ?_
      refine aw_iconst (npc := 37) (v := 3) (by decide) dX8_fine_36 rfl ?_
      refine aw_callV (npc := 40) (N := mX8_of) (b := 69) (mc := 0) (ms := 0) (A := [.int (nI fn), .int 3]) (S := [.int 1, .ref 82]) (L0 := [some (.ref 69), some (.int (nI fn)), some (.int 3)]) dX8_fine_37 rfl km_X8_of kk_X8_101 F2.1 ⟨by decide, rfl⟩ rfl ⟨rfl, by decide⟩ rfl (Nat.le_of_ble_eq_true rfl) (Nat.zero_add _) (Nat.zero_add _) rfl ?_
      refine m_of3 (f := fn) F2 (by omega) ?_
      refine aw_re (S' := [.int (N (25 + 5 * fn)), .int 1, .ref 82]) rfl ?_
      refine aw_iast (npc := 41) (j := 1) dX8_fine_40 rfl F2.2.2.2.2.2.2.2.2.2.2.2.2.2.1 ⟨by decide, by decide⟩ (by rw [tl_len]; omega) rfl ?_
      have F3 := mr_82 (j := 1) (v := N (25 + 5 * fn)) F2
      refine aw_iload_n (npc := 42) rfl dX8_fine_41 rfl ?_
      refine aw_if_ge (npc := 45) (tgt := 54) dX8_fine_42 rfl (by decide) (fun hc => absurd hc (by decide)) (fun _ => ?_)
      refine aw_aload_n (npc := 46) rfl dX8_fine_45 rfl ?_
      refine aw_iload_n (npc := 47) rfl dX8_fine_46 rfl ?_
      refine aw_iconst (npc := 48) (v := 4) (by decide) dX8_fine_47 rfl ?_
      refine aw_callV (npc := 51) (N := mX8_of) (b := 69) (mc := 0) (ms := 0) (A := [.int (nI fn), .int 4]) (S := []) (L0 := [some (.ref 69), some (.int (nI fn)), some (.int 4)]) dX8_fine_48 rfl km_X8_of kk_X8_101 F3.1 ⟨by decide, rfl⟩ rfl ⟨rfl, by decide⟩ rfl (Nat.le_of_ble_eq_true rfl) (Nat.zero_add _) (Nat.zero_add _) rfl ?_
      refine m_of4 (f := fn) F3 (by omega) ?_
      refine aw_re (S' := [.int (N (26 + 5 * fn))]) rfl ?_
      refine aw_goto (npc := 59) dX8_fine_51 (by decide) ?_
      refine aw_iret rfl dX8_fine_59 ?_
      exact k0 fn hw1 rfl h8fn _ _ _ (Or.inl ⟨ec, rfl⟩) F3 (fun k h1 h2 => (aup_n h2).trans (aup_n h2)) (am_fpU (show ¬ (82 < 69 ∨ 92 ≤ 82) by omega) (am_fpU (show ¬ (82 < 69 ∨ 92 ≤ 82) by omega) am_fp0))
    | some t =>
      obtain ⟨ky, lc, hky, hlc1, hlc, hhd, hvl⟩ := hT.2.2 t (cntM_lt ec).1
      have ht14 : t < 14 := by have z1 := (cntM_lt ec).1; omega
      refine aw_re (S' := [.int (nI t)]) rfl ?_
      refine aw_istore_n (npc := 17) (L' := [some (.ref 69), some (.int (nI fn)), some (.int (nI t))]) dX8_fine_16 rfl (by decide) rfl rfl ?_
      refine aw_aload_n (npc := 18) rfl dX8_fine_17 rfl ?_
      refine aw_get (npc := 21) dX8_fine_18 rfl kf_X8_52 F.1 rfl ?_
      refine aw_iconst (npc := 22) (v := 0) (by decide) dX8_fine_21 rfl ?_
      refine aw_aload_n (npc := 23) rfl dX8_fine_22 rfl ?_
      refine aw_iload_n (npc := 24) rfl dX8_fine_23 rfl ?_
      refine aw_iconst (npc := 25) (v := 4) (by decide) dX8_fine_24 rfl ?_
      refine aw_callV (npc := 28) (N := mX8_of) (b := 69) (mc := 0) (ms := 0) (A := [.int (nI fn), .int 4]) (S := [.int 0, .ref 82]) (L0 := [some (.ref 69), some (.int (nI fn)), some (.int 4)]) dX8_fine_25 rfl km_X8_of kk_X8_101 F.1 ⟨by decide, rfl⟩ rfl ⟨rfl, by decide⟩ rfl (Nat.le_of_ble_eq_true rfl) (Nat.zero_add _) (Nat.zero_add _) rfl ?_
      refine m_of4 (f := fn) F (by omega) ?_
      refine aw_re (S' := [.int (N (26 + 5 * fn)), .int 0, .ref 82]) rfl ?_
      refine aw_iast (npc := 29) (j := 0) dX8_fine_28 rfl F.2.2.2.2.2.2.2.2.2.2.2.2.2.1 ⟨by decide, by decide⟩ (by rw [tl_len]; omega) rfl ?_
      have F4 := mr_82 (j := 0) (v := N (26 + 5 * fn)) F
      refine aw_aload_n (npc := 30) rfl dX8_fine_29 rfl ?_
      refine aw_get (npc := 33) dX8_fine_30 rfl kf_X8_52 F4.1 rfl ?_
      refine aw_iconst (npc := 34) (v := 1) (by decide) dX8_fine_33 rfl ?_
      refine aw_aload_n (npc := 35) rfl dX8_fine_34 rfl ?_
      refine aw_iload_n (npc := 36) rfl dX8_fine_35 rfl ?_
      refine aw_iconst (npc := 37) (v := 3) (by decide) dX8_fine_36 rfl ?_
      refine aw_callV (npc := 40) (N := mX8_of) (b := 69) (mc := 0) (ms := 0) (A := [.int (nI fn), .int 3]) (S := [.int 1, .ref 82]) (L0 := [some (.ref 69), some (.int (nI fn)), some (.int 3)]) dX8_fine_37 rfl km_X8_of kk_X8_101 F4.1 ⟨by decide, rfl⟩ rfl ⟨rfl, by decide⟩ rfl (Nat.le_of_ble_eq_true rfl) (Nat.zero_add _) (Nat.zero_add _) rfl ?_
      refine m_of3 (f := fn) F4 (by omega) ?_
      refine aw_re (S' := [.int (N (25 + 5 * fn)), .int 1, .ref 82]) rfl ?_
      refine aw_iast (npc := 41) (j := 1) dX8_fine_40 rfl F4.2.2.2.2.2.2.2.2.2.2.2.2.2.1 ⟨by decide, by decide⟩ (by rw [tl_len]; omega) rfl ?_
      have F5 := mr_82 (j := 1) (v := N (25 + 5 * fn)) F4
      refine aw_iload_n (npc := 42) rfl dX8_fine_41 rfl ?_
      refine aw_if_ge (npc := 45) (tgt := 54) dX8_fine_42 rfl (by decide) (fun _ => ?_) (fun hc => absurd ((nI_leI (a := 0) (b := t) (by omega) (by omega)).mpr (by omega)) hc)
      refine aw_aload_n (npc := 55) rfl dX8_fine_54 rfl ?_
      refine aw_iload_n (npc := 56) rfl dX8_fine_55 rfl ?_
      refine aw_callV (npc := 59) (N := mX8_worksOut) (b := 69) (mc := 0) (ms := 0) (A := [.int (nI t)]) (S := []) (L0 := [some (.ref 69), some (.int (nI t)), none, none, none, none]) dX8_fine_56 rfl km_X8_worksOut kk_X8_105 F5.1 ⟨by decide, rfl⟩ rfl ⟨rfl, by decide⟩ rfl (Nat.le_of_ble_eq_true rfl) (Nat.zero_add _) (Nat.zero_add _) rfl ?_
      refine m_work F5 ht14 hky hlc hhd hvl rfl (fun a97 hp8 F9 ka10 ew11 fz12 => ?_)
      refine aw_re (S' := [.int (a97 81 0)]) rfl ?_
      refine aw_iret rfl dX8_fine_59 ?_
      exact k0 fn hw1 rfl h8fn _ _ _ (Or.inr ⟨t, lc, ky, _, _, ec, hky, hlc, hhd, rfl, rfl, congrFun ew11 0⟩) F9 (fun k h1 h2 => (ka10 k h1).trans ((aup_n h2).trans (aup_n h2))) (am_fpT (fun k (hk : k < 69 ∨ 92 ≤ k) => fz12 k (by omega)) (am_fpU (show ¬ (82 < 69 ∨ 92 ≤ 82) by omega) (am_fpU (show ¬ (82 < 69 ∨ 92 ≤ 82) by omega) am_fp0)))
  · refine aw_re (S' := [.int 0]) rfl ?_
    refine aw_if_ne (npc := 8) (tgt := 11) dX8_fine_5 rfl (by decide) (fun hc => absurd (by decide) hc) (fun _ => ?_)
    refine aw_ldc (npc := 10) kc_X8_91 dX8_fine_8 rfl ?_
    refine aw_iret rfl dX8_fine_10 ?_
    exact k1 hw1
