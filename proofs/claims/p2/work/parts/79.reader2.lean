theorem wr_fl {L : Nat} {tp : Nat → Int32} {ρ : RS} (h : WR L tp ρ) : WR L tp (flF ρ) := by
  obtain ⟨h1, h2, h3, h4, h5, h6⟩ := h
  refine ⟨h1, h2, h3, h4, h5, fun q hq => ?_⟩
  have hq2 : flO ρ.2.1 ρ.1.2.1 = some q := hq
  unfold flO at hq2
  split at hq2
  · have z := Option.some.inj hq2
    have z1 := h1.1
    have z2 := h1.2.1
    omega
  · rename_i e
    exact h6 q (e.trans hq2)
theorem emL_le {cs : List Int32} {c : Int32} (h : cs.length ≤ 96) : (emL cs c).length ≤ 96 := by
  unfold emL
  split
  · rw [List.length_append, List.length_singleton]; omega
  · exact h
theorem wr_em {L : Nat} {tp : Nat → Int32} {ρ : RS} {c : Int32} (h : WR L tp ρ) : WR L tp (emF c ρ) := ⟨h.1, h.2.1, emL_le h.2.2.1, h.2.2.2⟩
theorem wr_eo {L : Nat} {tp : Nat → Int32} {ρ : RS} {c : Int32} (h : WR L tp ρ) : WR L tp (eoF c ρ) := ⟨h.1, h.2.1, emL_le h.2.2.1, h.2.2.2⟩
theorem wr_av {L : Nat} {tp : Nat → Int32} {ρ : RS} (h : WR L tp ρ) : WR L tp (avF L tp ρ) := ⟨(adv_wf h.1).1, h.2⟩
theorem wr_ob {L : Nat} {tp : Nat → Int32} {ρ : RS} {b : Nat} (hb : b ≤ 8) (h : WR L tp ρ) : WR L tp (obF ρ b) := ⟨h.1, h.2.1, h.2.2.1, hb, h.2.2.2.2⟩
theorem wr_og {L : Nat} {tp : Nat → Int32} {ρ : RS} {g : Nat} (hg : g ≤ 8) (h : WR L tp ρ) : WR L tp (ogF ρ g) := ⟨h.1, h.2.1, h.2.2.1, h.2.2.2.1, hg, h.2.2.2.2.2⟩
theorem rx_frame {ρ : RS} {L : Nat} {tp : Nat → Int32} {h h' : am_H} (H : RX ρ L tp h) (hf : ∀ k, 39 ≤ k → k < 43 → h' k = h k) : RX ρ L tp h' := by
  obtain ⟨r, cd, F, M⟩ := H
  exact ⟨r, cd, rd_frame F hf, M⟩
set_option maxHeartbeats 4000000 in
set_option maxRecDepth 100000 in
theorem r_eo {X : List Int32} {d rc rs n : Nat} {Q : am_Q} {h : am_H} {L : Nat} {tp : Nat → Int32} {ρ : RS} {c : Int32} (H : RX ρ L tp h) (Wf : WR L tp ρ) (hq : ∀ h9, RX (eoF c ρ) L tp h9 → am_fp (fun k => k < 39 ∨ 43 ≤ k) h9 h → Q none n h9) : AW X mX1_emitOperand (d + 3) rc rs 0 [some (.ref 39), some (.int c)] [] n h Q := by
  refine aw_aload_n (npc := 1) rfl dX1_emitOperand_0 rfl ?_
  refine aw_dup (npc := 2) rfl dX1_emitOperand_1 rfl ?_
  obtain ⟨r1u, cd1u, Rd1u, m1_1, m2_1, m3_1, m4_1, m5_1, m7_1, m8_1, m9_1, m10_1, mc_1⟩ := id H
  refine aw_get (npc := 5) dX1_emitOperand_2 rfl kf_X1_41 Rd1u.1 rfl ?_
  refine aw_top (y := nI ρ.2.2.2.2.1) (m8_1) ?_
  refine aw_iconst (npc := 6) (v := 1) (by decide) dX1_emitOperand_5 rfl ?_
  refine aw_iaddV (npc := 7) (v := nI (ρ.2.2.2.2.1 + 1)) dX1_emitOperand_6 rfl (nI_add _ 1) ?_
  refine aw_put (npc := 10) dX1_emitOperand_7 rfl kf_X1_41 Rd1u.1 (Nat.le_of_ble_eq_true rfl) (am_ok_int _) rfl ?_
  have Rd1 := rd_r8 (v := nI (ρ.2.2.2.2.1 + 1)) Rd1u
  have Hp2 : RX ((ρ.1, ρ.2.1, ρ.2.2.1, ρ.2.2.2.1, ρ.2.2.2.2.1 + 1, ρ.2.2.2.2.2)) L tp _ := ⟨_, _, Rd1, (((pk_un (by omega))).trans m1_1), (((pk_un (by omega))).trans m2_1), (((pk_un (by omega))).trans m3_1), (((pk_un (by omega))).trans m4_1), (((pk_un (by omega))).trans m5_1), (((pk_un (by omega))).trans m7_1), (pk_us), (((pk_un (by omega))).trans m9_1), (((pk_un (by omega))).trans m10_1), mc_1⟩
  have Wf3 : WR L tp ((ρ.1, ρ.2.1, ρ.2.2.1, ρ.2.2.2.1, ρ.2.2.2.2.1 + 1, ρ.2.2.2.2.2)) := Wf
  refine aw_aload_n (npc := 11) rfl dX1_emitOperand_10 rfl ?_
  refine aw_iload_n (npc := 12) rfl dX1_emitOperand_11 rfl ?_
  obtain ⟨r2u, cd2u, Rd2u, m1_2, m2_2, m3_2, m4_2, m5_2, m7_2, m8_2, m9_2, m10_2, mc_2⟩ := id Hp2
  refine aw_callV (npc := 15) (N := mX1_emit) (b := 39) (mc := 0) (ms := 0) (A := [.int c]) (S := []) (L0 := [some (.ref 39), some (.int c)]) dX1_emitOperand_12 rfl km_X1_emit kk_X1_109 Rd2u.1 ⟨by decide, rfl⟩ rfl ⟨rfl, by decide⟩ rfl (Nat.le_of_ble_eq_true rfl) (Nat.zero_add _) (Nat.zero_add _) rfl ?_
  refine r_emit (c := c) Hp2 Wf3 (fun hp4 Hr5 fz6 => ?_)
  have fyfz6 : ∀ k, (k < 39 ∨ 43 ≤ k) → hp4 k = _ := fun k hk => fz6 k hk
  have Wf7 : WR L tp (emF c (ρ.1, ρ.2.1, ρ.2.2.1, ρ.2.2.2.1, ρ.2.2.2.2.1 + 1, ρ.2.2.2.2.2)) := wr_em Wf3
  refine aw_vret rfl dX1_emitOperand_15 ?_
  exact hq _ Hr5 (am_fpT (fun k (hk : k < 39 ∨ 43 ≤ k) => fyfz6 k (by omega)) (am_fpU (show ¬ (39 < 39 ∨ 43 ≤ 39) by omega) am_fp0))
set_option maxHeartbeats 4000000 in
set_option maxRecDepth 100000 in
theorem r_isSign {X : List Int32} {d rc rs n : Nat} {Q : am_Q} {h : am_H} {L : Nat} {tp : Nat → Int32} {ρ : RS} {c : Int32} (H : RX ρ L tp h) (Wf : WR L tp ρ) (k1 : isSg tp ρ c → Q (some (.int 1)) n h) (k0 : ¬ isSg tp ρ c → Q (some (.int 0)) n h) : AW X mX1_isSign (d + 1) rc rs 0 [some (.ref 39), some (.int c)] [] n h Q := by
  obtain ⟨wk, w96, wcl, wob, wog, wft⟩ := id Wf
  have we := wk.1
  have wf := wk.2.1
  have wt := wk.2.2.1
  refine aw_aload_n (npc := 1) rfl dX1_isSign_0 rfl ?_
  obtain ⟨r3u, cd3u, Rd3u, m1_3, m2_3, m3_3, m4_3, m5_3, m7_3, m8_3, m9_3, m10_3, mc_3⟩ := id H
  refine aw_get (npc := 4) dX1_isSign_1 rfl kf_X1_28 Rd3u.1 rfl ?_
  refine aw_top (y := fI ρ.2.1) (m4_3) ?_
  refine aw_if_ge (npc := 7) (tgt := 35) dX1_isSign_4 rfl (by decide) (fun hc1 => ?_) (fun hc1 => ?_)
  · refine aw_iconst (npc := 36) (v := 0) (by decide) dX1_isSign_35 rfl ?_
    refine aw_zret rfl rfl dX1_isSign_36 ?_
    exact k0 (fun z => absurd ((fI_neg wft).mpr z.1) (Int32.not_lt.mpr hc1))
  · refine aw_aload_n (npc := 8) rfl dX1_isSign_7 rfl ?_
    refine aw_get (npc := 11) dX1_isSign_8 rfl kf_X1_22 Rd3u.1 rfl ?_
    refine aw_top (y := nI ρ.1.1) (m2_3) ?_
    refine aw_iconst (npc := 12) (v := 3) (by decide) dX1_isSign_11 rfl ?_
    refine aw_icmp_ne (npc := 15) (tgt := 35) dX1_isSign_12 rfl (by decide) (fun hc2 => ?_) (fun hc2 => ?_)
    · have hc2N : ¬ ρ.1.1 = 3 := fun z9q => hc2 ((nI_eq (a := ρ.1.1) (b := 3) (by omega) (by omega)).mpr z9q)
      refine aw_iconst (npc := 36) (v := 0) (by decide) dX1_isSign_35 rfl ?_
      refine aw_zret rfl rfl dX1_isSign_36 ?_
      exact k0 (fun z => hc2N z.2.1)
    · have hc2N := (nI_eq (a := ρ.1.1) (b := 3) (by omega) (by omega)).mp hc2
      refine aw_aload_n (npc := 16) rfl dX1_isSign_15 rfl ?_
      refine aw_get (npc := 19) dX1_isSign_16 rfl kf_X1_12 Rd3u.1 rfl ?_
      refine aw_get (npc := 22) dX1_isSign_19 rfl kf_X1_76 Rd3u.2.1 rfl ?_
      refine aw_aload_n (npc := 23) rfl dX1_isSign_22 rfl ?_
      refine aw_get (npc := 26) dX1_isSign_23 rfl kf_X1_25 Rd3u.1 rfl ?_
      refine aw_top (y := nI ρ.1.2.1) (m3_3) ?_
      have wf3 : ρ.1.2.1 < ρ.1.2.2 := wk.2.2.2.2.2.1 (by omega)
      refine aw_iald (npc := 27) (x := tp ρ.1.2.1) (j := ρ.1.2.1) dX1_isSign_26 rfl Rd3u.2.2.1 (am_ix_nI (by omega)) (tl_at (by omega)) ?_
      refine aw_iload_n (npc := 28) rfl dX1_isSign_27 rfl ?_
      refine aw_icmp_ne (npc := 31) (tgt := 35) dX1_isSign_28 rfl (by decide) (fun hc3 => ?_) (fun hc3 => ?_)
      · refine aw_iconst (npc := 36) (v := 0) (by decide) dX1_isSign_35 rfl ?_
        refine aw_zret rfl rfl dX1_isSign_36 ?_
        exact k0 (fun z => hc3 z.2.2)
      · refine aw_iconst (npc := 32) (v := 1) (by decide) dX1_isSign_31 rfl ?_
        refine aw_goto (npc := 36) dX1_isSign_32 (by decide) ?_
        refine aw_zret rfl rfl dX1_isSign_36 ?_
        exact k1 ⟨(fI_neg wft).mp (Int32.not_le.mp hc1), hc2N, hc3⟩
def nuV (tp : Nat → Int32) : Nat → Nat → Int32 → Int32
  | 0, _, s => s
  | m + 1, i, s => nuV tp m (i + 1) (s * 10 + tp i - 48)
def numF (tp : Nat → Int32) (ρ : RS) : Int32 := nuV tp (ρ.1.2.2 - ρ.1.2.1) ρ.1.2.1 0
set_option maxHeartbeats 4000000 in
set_option maxRecDepth 100000 in
theorem r_numL {X : List Int32} {d rc rs n : Nat} {Q : am_Q} {h : am_H} {L : Nat} {tp : Nat → Int32} {ρ : RS} (H : RX ρ L tp h) (Wf : WR L tp ρ) : ∀ (m i : Nat), i + m = ρ.1.2.2 → ∀ (s : Int32), Q (some (.int (nuV tp m i s))) n h → AW X mX1_numberRead (d + 1) rc rs 7 [some (.ref 39), some (.int s), some (.int (nI i))] [] n h Q := by
  obtain ⟨wk, w96, wcl, wob, wog, wft⟩ := id Wf
  have we := wk.1
  have wf := wk.2.1
  have wt := wk.2.2.1
  intro m
  induction m with
  | zero =>
    intro i hi s hq
    refine aw_iload_n (npc := 8) rfl dX1_numberRead_7 rfl ?_
    refine aw_aload_n (npc := 9) rfl dX1_numberRead_8 rfl ?_
    obtain ⟨r5u, cd5u, Rd5u, m1_5, m2_5, m3_5, m4_5, m5_5, m7_5, m8_5, m9_5, m10_5, mc_5⟩ := id H
    refine aw_get (npc := 12) dX1_numberRead_9 rfl kf_X1_18 Rd5u.1 rfl ?_
    refine aw_top (y := nI ρ.1.2.2) (m1_5) ?_
    refine aw_icmp_ge (npc := 15) (tgt := 39) dX1_numberRead_12 rfl (by decide) (fun _ => ?_) (fun hc => absurd (nI_le (a := ρ.1.2.2) (b := i) (by omega) (by omega)) hc)
    refine aw_iload_n (npc := 40) rfl dX1_numberRead_39 rfl ?_
    refine aw_iret rfl dX1_numberRead_40 ?_
    exact hq
  | succ m ih =>
    intro i hi s hq
    refine aw_iload_n (npc := 8) rfl dX1_numberRead_7 rfl ?_
    refine aw_aload_n (npc := 9) rfl dX1_numberRead_8 rfl ?_
    obtain ⟨r4u, cd4u, Rd4u, m1_4, m2_4, m3_4, m4_4, m5_4, m7_4, m8_4, m9_4, m10_4, mc_4⟩ := id H
    refine aw_get (npc := 12) dX1_numberRead_9 rfl kf_X1_18 Rd4u.1 rfl ?_
    refine aw_top (y := nI ρ.1.2.2) (m1_4) ?_
    refine aw_icmp_ge (npc := 15) (tgt := 39) dX1_numberRead_12 rfl (by decide) (fun hc => absurd hc (nI_ge (a := i) (b := ρ.1.2.2) (by omega) (by omega))) (fun _ => ?_)
    refine aw_iload_n (npc := 16) rfl dX1_numberRead_15 rfl ?_
    refine aw_bipush (npc := 18) (v := 10) (by decide) dX1_numberRead_16 rfl ?_
    refine aw_imul (npc := 19) dX1_numberRead_18 rfl ?_
    refine aw_aload_n (npc := 20) rfl dX1_numberRead_19 rfl ?_
    refine aw_get (npc := 23) dX1_numberRead_20 rfl kf_X1_12 Rd4u.1 rfl ?_
    refine aw_get (npc := 26) dX1_numberRead_23 rfl kf_X1_76 Rd4u.2.1 rfl ?_
    refine aw_iload_n (npc := 27) rfl dX1_numberRead_26 rfl ?_
    refine aw_iald (npc := 28) (x := tp i) (j := i) dX1_numberRead_27 rfl Rd4u.2.2.1 (am_ix_nI (by omega)) (tl_at (by omega)) ?_
    refine aw_iadd (npc := 29) dX1_numberRead_28 rfl ?_
    refine aw_bipush (npc := 31) (v := 48) (by decide) dX1_numberRead_29 rfl ?_
    refine aw_isub (npc := 32) dX1_numberRead_31 rfl ?_
    refine aw_istore_n (npc := 33) (L' := [some (.ref 39), some (.int (((s * 10) + (tp i)) - 48)), some (.int (nI i))]) dX1_numberRead_32 rfl (by decide) rfl rfl ?_
    refine aw_iinc (npc := 36) (v := nI (i + 1)) (L' := [some (.ref 39), some (.int (((s * 10) + (tp i)) - 48)), some (.int (nI (i + 1)))]) dX1_numberRead_33 rfl rfl (nI_1 _) (by decide) rfl rfl ?_
    refine aw_goto (npc := 7) dX1_numberRead_36 (by decide) ?_
    exact ih (i + 1) (by omega) _ hq
set_option maxHeartbeats 4000000 in
set_option maxRecDepth 100000 in
theorem r_num {X : List Int32} {d rc rs n : Nat} {Q : am_Q} {h : am_H} {L : Nat} {tp : Nat → Int32} {ρ : RS} (H : RX ρ L tp h) (Wf : WR L tp ρ) (hq : Q (some (.int (numF tp ρ))) n h) : AW X mX1_numberRead (d + 1) rc rs 0 [some (.ref 39), none, none] [] n h Q := by
  obtain ⟨wk, w96, wcl, wob, wog, wft⟩ := id Wf
  have we := wk.1
  have wf := wk.2.1
  have wt := wk.2.2.1
  refine aw_iconst (npc := 1) (v := 0) (by decide) dX1_numberRead_0 rfl ?_
  refine aw_istore_n (npc := 2) (L' := [some (.ref 39), some (.int 0), none]) dX1_numberRead_1 rfl (by decide) rfl rfl ?_
  refine aw_aload_n (npc := 3) rfl dX1_numberRead_2 rfl ?_
  obtain ⟨r6u, cd6u, Rd6u, m1_6, m2_6, m3_6, m4_6, m5_6, m7_6, m8_6, m9_6, m10_6, mc_6⟩ := id H
  refine aw_get (npc := 6) dX1_numberRead_3 rfl kf_X1_25 Rd6u.1 rfl ?_
  refine aw_top (y := nI ρ.1.2.1) (m3_6) ?_
  refine aw_istore_n (npc := 7) (L' := [some (.ref 39), some (.int 0), some (.int (nI ρ.1.2.1))]) dX1_numberRead_6 rfl (by decide) rfl rfl ?_
  exact r_numL H Wf (ρ.1.2.2 - ρ.1.2.1) ρ.1.2.1 (by omega) 0 hq
def nameO (tp : Nat → Int32) (ρ : RS) : Option Nat := if ρ.1.1 = 1 ∧ ρ.1.2.2 = ρ.1.2.1 + 1 then nmF (if ρ.2.2.1 = 0 then 3 else if ρ.2.2.1 = 1 then 4 else 5) (fN (tp ρ.1.2.1)) else none
set_option maxHeartbeats 4000000 in
set_option maxRecDepth 100000 in
theorem r_name {X : List Int32} {d rc rs n : Nat} {Q : am_Q} {h : am_H} {L : Nat} {tp : Nat → Int32} {ρ : RS} (H : RX ρ L tp h) (Wf : WR L tp ρ) (hq : Q (some (.int (bI (nameO tp ρ)))) n h) : AW X mX1_nameRead (d + 8) rc rs 0 [some (.ref 39), none] [] n h Q := by
  obtain ⟨wk, w96, wcl, wob, wog, wft⟩ := id Wf
  have we := wk.1
  have wf := wk.2.1
  have wt := wk.2.2.1
  refine aw_aload_n (npc := 1) rfl dX1_nameRead_0 rfl ?_
  obtain ⟨r7u, cd7u, Rd7u, m1_7, m2_7, m3_7, m4_7, m5_7, m7_7, m8_7, m9_7, m10_7, mc_7⟩ := id H
  refine aw_get (npc := 4) dX1_nameRead_1 rfl kf_X1_22 Rd7u.1 rfl ?_
  refine aw_top (y := nI ρ.1.1) (m2_7) ?_
  refine aw_iconst (npc := 5) (v := 1) (by decide) dX1_nameRead_4 rfl ?_
  refine aw_icmp_ne (npc := 8) (tgt := 21) dX1_nameRead_5 rfl (by decide) (fun hc1 => ?_) (fun hc1 => ?_)
  · have hc1N : ¬ ρ.1.1 = 1 := fun z9q => hc1 ((nI_eq (a := ρ.1.1) (b := 1) (by omega) (by omega)).mpr z9q)
    refine aw_iconst (npc := 22) (v := -1) (by decide) dX1_nameRead_21 rfl ?_
    refine aw_iret rfl dX1_nameRead_22 ?_
    exact (show bI (nameO tp ρ) = -1 by unfold nameO; rw [if_neg (fun z => hc1N z.1)]; rfl) ▸ hq
  · have hc1N := (nI_eq (a := ρ.1.1) (b := 1) (by omega) (by omega)).mp hc1
    refine aw_aload_n (npc := 9) rfl dX1_nameRead_8 rfl ?_
    refine aw_get (npc := 12) dX1_nameRead_9 rfl kf_X1_18 Rd7u.1 rfl ?_
    refine aw_top (y := nI ρ.1.2.2) (m1_7) ?_
    refine aw_aload_n (npc := 13) rfl dX1_nameRead_12 rfl ?_
    refine aw_get (npc := 16) dX1_nameRead_13 rfl kf_X1_25 Rd7u.1 rfl ?_
    refine aw_top (y := nI ρ.1.2.1) (m3_7) ?_
    refine aw_isubV (npc := 17) (v := nI (ρ.1.2.2 - ρ.1.2.1)) dX1_nameRead_16 rfl (pk_sub (by omega)) ?_
    refine aw_iconst (npc := 18) (v := 1) (by decide) dX1_nameRead_17 rfl ?_
    refine aw_icmp_eq (npc := 21) (tgt := 23) dX1_nameRead_18 rfl (by decide) (fun hc2 => ?_) (fun hc2 => ?_)
    · have hc2N := (nI_eq (a := (ρ.1.2.2 - ρ.1.2.1)) (b := 1) (by omega) (by omega)).mp hc2
      refine aw_aload_n (npc := 24) rfl dX1_nameRead_23 rfl ?_
      refine aw_get (npc := 27) dX1_nameRead_24 rfl kf_X1_31 Rd7u.1 rfl ?_
      refine aw_top (y := ρ.2.2.1) (m5_7) ?_
      refine aw_if_ne (npc := 30) (tgt := 35) dX1_nameRead_27 rfl (by decide) (fun hc3 => ?_) (fun hc3 => ?_)
      · refine aw_aload_n (npc := 36) rfl dX1_nameRead_35 rfl ?_
        refine aw_get (npc := 39) dX1_nameRead_36 rfl kf_X1_31 Rd7u.1 rfl ?_
        refine aw_top (y := ρ.2.2.1) (m5_7) ?_
        refine aw_iconst (npc := 40) (v := 1) (by decide) dX1_nameRead_39 rfl ?_
        refine aw_icmp_ne (npc := 43) (tgt := 48) dX1_nameRead_40 rfl (by decide) (fun hc4 => ?_) (fun hc4 => ?_)
        · refine aw_ldcS (npc := 50) (i := 5) dX1_nameRead_48 rfl rfl rfl ?_
          refine aw_astore_n (npc := 51) (L' := [some (.ref 39), some (.ref (1000002 + 5))]) dX1_nameRead_50 rfl (by decide) rfl rfl ?_
          obtain ⟨v, hv1, hv2, ev⟩ := so_let (wk.2.2.2.2.2.2.1 hc1N ρ.1.2.1 (Nat.le_refl _) (by omega))
          refine aw_aload_n (npc := 52) rfl dX1_nameRead_51 rfl ?_
          refine aw_aload_n (npc := 53) rfl dX1_nameRead_52 rfl ?_
          refine aw_get (npc := 56) dX1_nameRead_53 rfl kf_X1_12 Rd7u.1 rfl ?_
          refine aw_get (npc := 59) dX1_nameRead_56 rfl kf_X1_76 Rd7u.2.1 rfl ?_
          refine aw_aload_n (npc := 60) rfl dX1_nameRead_59 rfl ?_
          refine aw_get (npc := 63) dX1_nameRead_60 rfl kf_X1_25 Rd7u.1 rfl ?_
          refine aw_top (y := nI ρ.1.2.1) (m3_7) ?_
          refine aw_iald (npc := 64) (x := tp ρ.1.2.1) (j := ρ.1.2.1) dX1_nameRead_63 rfl Rd7u.2.2.1 (am_ix_nI (by omega)) (tl_at (by omega)) ?_
          refine aw_top (y := nI v) ev ?_
          refine aw_i2c (npc := 65) dX1_nameRead_64 rfl ?_
          refine aw_top (y := nI v) (i2c_id (by omega)) ?_
          refine aw_callVS (npc := 68) (N := mJ0_indexOf_0f7a4) (i := 5) (mc := 0) (ms := 0) (A := [.int (nI v)]) (S := []) (L0 := [some (.ref (1000002 + 5)), some (.int (nI v))]) dX1_nameRead_65 rfl km_J0_indexOf_0f7a4 kk_X1_143 (by omega) rfl rfl ⟨rfl, by decide⟩ rfl (Nat.le_of_ble_eq_true rfl) (Nat.zero_add _) (Nat.zero_add _) rfl ?_
          refine c_sidx5 (v := v) (by omega) ?_
          refine aw_re (S' := [.int (bI (nmF 5 v))]) rfl ?_
          refine aw_iret rfl dX1_nameRead_68 ?_
          exact (show bI (nameO tp ρ) = bI (nmF 5 v) by unfold nameO; rw [if_pos (show ρ.1.1 = 1 ∧ ρ.1.2.2 = ρ.1.2.1 + 1 from ⟨hc1N, by omega⟩), ev, fN_nI (by omega), if_neg hc3, if_neg hc4]) ▸ hq
        · refine aw_ldcS (npc := 45) (i := 4) dX1_nameRead_43 rfl rfl rfl ?_
          refine aw_goto (npc := 50) dX1_nameRead_45 (by decide) ?_
          refine aw_astore_n (npc := 51) (L' := [some (.ref 39), some (.ref (1000002 + 4))]) dX1_nameRead_50 rfl (by decide) rfl rfl ?_
          obtain ⟨v, hv1, hv2, ev⟩ := so_let (wk.2.2.2.2.2.2.1 hc1N ρ.1.2.1 (Nat.le_refl _) (by omega))
          refine aw_aload_n (npc := 52) rfl dX1_nameRead_51 rfl ?_
          refine aw_aload_n (npc := 53) rfl dX1_nameRead_52 rfl ?_
          refine aw_get (npc := 56) dX1_nameRead_53 rfl kf_X1_12 Rd7u.1 rfl ?_
          refine aw_get (npc := 59) dX1_nameRead_56 rfl kf_X1_76 Rd7u.2.1 rfl ?_
          refine aw_aload_n (npc := 60) rfl dX1_nameRead_59 rfl ?_
          refine aw_get (npc := 63) dX1_nameRead_60 rfl kf_X1_25 Rd7u.1 rfl ?_
          refine aw_top (y := nI ρ.1.2.1) (m3_7) ?_
          refine aw_iald (npc := 64) (x := tp ρ.1.2.1) (j := ρ.1.2.1) dX1_nameRead_63 rfl Rd7u.2.2.1 (am_ix_nI (by omega)) (tl_at (by omega)) ?_
          refine aw_top (y := nI v) ev ?_
          refine aw_i2c (npc := 65) dX1_nameRead_64 rfl ?_
          refine aw_top (y := nI v) (i2c_id (by omega)) ?_
          refine aw_callVS (npc := 68) (N := mJ0_indexOf_0f7a4) (i := 4) (mc := 0) (ms := 0) (A := [.int (nI v)]) (S := []) (L0 := [some (.ref (1000002 + 4)), some (.int (nI v))]) dX1_nameRead_65 rfl km_J0_indexOf_0f7a4 kk_X1_143 (by omega) rfl rfl ⟨rfl, by decide⟩ rfl (Nat.le_of_ble_eq_true rfl) (Nat.zero_add _) (Nat.zero_add _) rfl ?_
          refine c_sidx4 (v := v) (by omega) ?_
          refine aw_re (S' := [.int (bI (nmF 4 v))]) rfl ?_
          refine aw_iret rfl dX1_nameRead_68 ?_
          exact (show bI (nameO tp ρ) = bI (nmF 4 v) by unfold nameO; rw [if_pos (show ρ.1.1 = 1 ∧ ρ.1.2.2 = ρ.1.2.1 + 1 from ⟨hc1N, by omega⟩), ev, fN_nI (by omega), if_neg hc3, if_pos hc4]) ▸ hq
      · refine aw_ldcS (npc := 32) (i := 3) dX1_nameRead_30 rfl rfl rfl ?_
        refine aw_goto (npc := 50) dX1_nameRead_32 (by decide) ?_
        refine aw_astore_n (npc := 51) (L' := [some (.ref 39), some (.ref (1000002 + 3))]) dX1_nameRead_50 rfl (by decide) rfl rfl ?_
        obtain ⟨v, hv1, hv2, ev⟩ := so_let (wk.2.2.2.2.2.2.1 hc1N ρ.1.2.1 (Nat.le_refl _) (by omega))
        refine aw_aload_n (npc := 52) rfl dX1_nameRead_51 rfl ?_
        refine aw_aload_n (npc := 53) rfl dX1_nameRead_52 rfl ?_
        refine aw_get (npc := 56) dX1_nameRead_53 rfl kf_X1_12 Rd7u.1 rfl ?_
        refine aw_get (npc := 59) dX1_nameRead_56 rfl kf_X1_76 Rd7u.2.1 rfl ?_
        refine aw_aload_n (npc := 60) rfl dX1_nameRead_59 rfl ?_
        refine aw_get (npc := 63) dX1_nameRead_60 rfl kf_X1_25 Rd7u.1 rfl ?_
        refine aw_top (y := nI ρ.1.2.1) (m3_7) ?_
        refine aw_iald (npc := 64) (x := tp ρ.1.2.1) (j := ρ.1.2.1) dX1_nameRead_63 rfl Rd7u.2.2.1 (am_ix_nI (by omega)) (tl_at (by omega)) ?_
        refine aw_top (y := nI v) ev ?_
        refine aw_i2c (npc := 65) dX1_nameRead_64 rfl ?_
        refine aw_top (y := nI v) (i2c_id (by omega)) ?_
        refine aw_callVS (npc := 68) (N := mJ0_indexOf_0f7a4) (i := 3) (mc := 0) (ms := 0) (A := [.int (nI v)]) (S := []) (L0 := [some (.ref (1000002 + 3)), some (.int (nI v))]) dX1_nameRead_65 rfl km_J0_indexOf_0f7a4 kk_X1_143 (by omega) rfl rfl ⟨rfl, by decide⟩ rfl (Nat.le_of_ble_eq_true rfl) (Nat.zero_add _) (Nat.zero_add _) rfl ?_
        refine c_sidx3 (v := v) (by omega) ?_
        refine aw_re (S' := [.int (bI (nmF 3 v))]) rfl ?_
        refine aw_iret rfl dX1_nameRead_68 ?_
        exact (show bI (nameO tp ρ) = bI (nmF 3 v) by unfold nameO; rw [if_pos (show ρ.1.1 = 1 ∧ ρ.1.2.2 = ρ.1.2.1 + 1 from ⟨hc1N, by omega⟩), ev, fN_nI (by omega), if_pos hc3]) ▸ hq
    · have hc2N : ¬ (ρ.1.2.2 - ρ.1.2.1) = 1 := fun z9q => hc2 ((nI_eq (a := (ρ.1.2.2 - ρ.1.2.1)) (b := 1) (by omega) (by omega)).mpr z9q)
      refine aw_iconst (npc := 22) (v := -1) (by decide) dX1_nameRead_21 rfl ?_
      refine aw_iret rfl dX1_nameRead_22 ?_
      exact (show bI (nameO tp ρ) = -1 by unfold nameO; rw [if_neg (fun z => hc2N (by omega))]; rfl) ▸ hq
