def CM (L : Nat) (tp : Nat → Int32) (M : am_MD) (L0 : am_L) (q D : Nat) (G : RS → RS) : Prop := ∀ (X : List Int32) (d rc rs n : Nat) (Q : am_Q) (h : am_H) (ρ : RS), RX ρ L tp h → WR L tp ρ → 17 ≤ D + ρ.2.2.2.2.2.1 + ρ.2.2.2.2.2.2 → (∀ h9, RX (G ρ) L tp h9 → am_fp (fun k => k < 39 ∨ 43 ≤ k) h9 h → Q none n h9) → AW X M (d + q) rc rs 0 L0 [] n h Q
theorem aw_dd {X : List Int32} {M : am_MD} {d d2 rc rs pc n : Nat} {L : am_L} {S : List Value} {h : am_H} {Q : am_Q} (e : d = d2) (k : AW X M d2 rc rs pc L S n h Q) : AW X M d rc rs pc L S n h Q := e ▸ k
theorem kp_d {D : Nat} {a b : RS} (h : kp a b) (hd : 17 ≤ D + b.2.2.2.2.2.1 + b.2.2.2.2.2.2) : 17 ≤ D + a.2.2.2.2.2.1 + a.2.2.2.2.2.2 := by
  rw [h.2]; exact hd
set_option maxHeartbeats 4000000 in
set_option maxRecDepth 100000 in
theorem r_prodL {L : Nat} {tp : Nat → Int32} {D q : Nat} {P : RS → RS} (hG : CM L tp mX1_readPiece [some (.ref 39)] q D P) (hO : PO L tp D (P)) {X : List Int32} {d rc rs n : Nat} {Q : am_Q} : ∀ (m i : Nat), i + m = 96 → ∀ (v2 : Option Value) (ρ : RS) (h : am_H), RX ρ L tp h → WR L tp ρ → 17 ≤ D + ρ.2.2.2.2.2.1 + ρ.2.2.2.2.2.2 → (∀ h9, RX (lpF L tp (P) (sgP tp) m ρ) L tp h9 → am_fp (fun k => k < 39 ∨ 43 ≤ k) h9 h → Q none n h9) → AW X mX1_readProduct (d + q + 5) rc rs 6 [some (.ref 39), some (.int (nI i)), v2] [] n h Q := by
  intro m
  induction m with
  | zero =>
    intro i hi v2 ρ h H Wf hd hq
    obtain rfl : i = 96 := by omega
    refine aw_iload_n (npc := 7) rfl dX1_readProduct_6 rfl ?_
    refine aw_bipush (npc := 9) (v := 96) (by decide) dX1_readProduct_7 rfl ?_
    refine aw_icmp_ge (npc := 12) (tgt := 63) dX1_readProduct_9 rfl (by decide) (fun _ => ?_) (fun hc => absurd (nI_le (a := 96) (b := 96) (by omega) (by omega)) hc)
    refine aw_vret rfl dX1_readProduct_63 ?_
    exact hq _ H am_fp0
  | succ m ih =>
    intro i hi v2 ρ h H Wf hd hq
    obtain ⟨wk, w96, wcl, wob, wog, wft⟩ := id Wf
    have we := wk.1
    have wf := wk.2.1
    refine aw_iload_n (npc := 7) rfl dX1_readProduct_6 rfl ?_
    refine aw_bipush (npc := 9) (v := 96) (by decide) dX1_readProduct_7 rfl ?_
    refine aw_icmp_ge (npc := 12) (tgt := 63) dX1_readProduct_9 rfl (by decide) (fun hc => absurd hc (nI_ge (a := i) (b := 96) (by omega) (by omega))) (fun _ => ?_)
    refine aw_aload_n (npc := 13) rfl dX1_readProduct_12 rfl ?_
    refine aw_bipush (npc := 15) (v := 42) (by decide) dX1_readProduct_13 rfl ?_
    obtain ⟨r1u, cd1u, Rd1u, m1_1, m2_1, m3_1, m4_1, m5_1, m7_1, m8_1, m9_1, m10_1, mc_1⟩ := id H
    refine aw_callV (npc := 18) (N := mX1_isSign) (b := 39) (mc := 0) (ms := 0) (A := [.int 42]) (S := []) (L0 := [some (.ref 39), some (.int 42)]) dX1_readProduct_15 rfl km_X1_isSign kk_X1_105 Rd1u.1 ⟨by decide, rfl⟩ rfl ⟨rfl, by decide⟩ rfl (Nat.le_of_ble_eq_true rfl) (Nat.zero_add _) (Nat.zero_add _) rfl ?_
    refine r_isSign (c := 42) H Wf (fun hg2 => ?_) (fun hg2 => ?_)
    · refine aw_re (S' := [.int 1]) rfl ?_
      refine aw_if_ne (npc := 21) (tgt := 30) dX1_readProduct_18 rfl (by decide) (fun _ => ?_) (fun hc => absurd hc (by decide))
      have wf3 : ρ.1.2.1 < ρ.1.2.2 := wk.2.2.2.2.2.1 (by have z := hg2.2.1; omega)
      refine aw_aload_n (npc := 31) rfl dX1_readProduct_30 rfl ?_
      refine aw_get (npc := 34) dX1_readProduct_31 rfl kf_X1_12 Rd1u.1 rfl ?_
      refine aw_get (npc := 37) dX1_readProduct_34 rfl kf_X1_76 Rd1u.2.1 rfl ?_
      refine aw_aload_n (npc := 38) rfl dX1_readProduct_37 rfl ?_
      refine aw_get (npc := 41) dX1_readProduct_38 rfl kf_X1_25 Rd1u.1 rfl ?_
      refine aw_top (y := nI ρ.1.2.1) (m3_1) ?_
      refine aw_iald (npc := 42) (x := tp ρ.1.2.1) (j := ρ.1.2.1) dX1_readProduct_41 rfl Rd1u.2.2.1 (am_ix_nI (by omega)) (tl_at (by omega)) ?_
      refine aw_istore_n (npc := 43) (L' := [some (.ref 39), some (.int (nI i)), some (.int (tp ρ.1.2.1))]) dX1_readProduct_42 rfl (by decide) rfl rfl ?_
      refine aw_aload_n (npc := 44) rfl dX1_readProduct_43 rfl ?_
      refine aw_callV (npc := 47) (N := mX1_advance) (b := 39) (mc := 0) (ms := 0) (A := []) (S := []) (L0 := [some (.ref 39), none, none, none]) dX1_readProduct_44 rfl km_X1_advance kk_X1_50 Rd1u.1 ⟨by decide, rfl⟩ rfl ⟨rfl, by decide⟩ rfl (Nat.le_of_ble_eq_true rfl) (Nat.zero_add _) (Nat.zero_add _) rfl ?_
      refine r_adv  H Wf (fun hp3 Hr4 fz5 => ?_)
      have fyfz5 : ∀ k, (k < 39 ∨ 43 ≤ k) → hp3 k = _ := fun k hk => fz5 k hk
      have Wf6 : WR L tp (avF L tp ρ) := wr_av Wf
      refine aw_aload_n (npc := 48) rfl dX1_readProduct_47 rfl ?_
      obtain ⟨r2u, cd2u, Rd2u, m1_2, m2_2, m3_2, m4_2, m5_2, m7_2, m8_2, m9_2, m10_2, mc_2⟩ := id Hr4
      refine aw_callV (npc := 51) (N := mX1_readPiece) (b := 39) (mc := 0) (ms := 0) (A := []) (S := []) (L0 := [some (.ref 39)]) dX1_readProduct_48 rfl km_X1_readPiece kk_X1_122 Rd2u.1 ⟨by decide, rfl⟩ rfl ⟨rfl, by decide⟩ rfl (Nat.le_of_ble_eq_true rfl) (Nat.zero_add _) (Nat.zero_add _) rfl ?_
      refine aw_dd (d2 := d + 4 + q) (by omega) ?_
      refine hG _ _ _ _ _ _ _ (avF L tp ρ) Hr4 Wf6 hd (fun hp7 Hc8 fz9 => ?_)
      have Wc10 := hO (avF L tp ρ) Wf6 hd
      have fyfz9 : ∀ k, (k < 39 ∨ 43 ≤ k) → hp7 k = _ := fun k hk => fz9 k hk
      have hd11 : 17 ≤ D + ((P) (avF L tp ρ)).2.2.2.2.2.1 + ((P) (avF L tp ρ)).2.2.2.2.2.2 := kp_d Wc10.2 hd
      refine aw_aload_n (npc := 52) rfl dX1_readProduct_51 rfl ?_
      refine aw_iload_n (npc := 53) rfl dX1_readProduct_52 rfl ?_
      refine aw_ineg (npc := 54) dX1_readProduct_53 rfl ?_
      obtain ⟨r3u, cd3u, Rd3u, m1_3, m2_3, m3_3, m4_3, m5_3, m7_3, m8_3, m9_3, m10_3, mc_3⟩ := id Hc8
      refine aw_callV (npc := 57) (N := mX1_emit) (b := 39) (mc := 0) (ms := 0) (A := [.int (-(tp ρ.1.2.1))]) (S := []) (L0 := [some (.ref 39), some (.int (-(tp ρ.1.2.1)))]) dX1_readProduct_54 rfl km_X1_emit kk_X1_109 Rd3u.1 ⟨by decide, rfl⟩ rfl ⟨rfl, by decide⟩ rfl (Nat.le_of_ble_eq_true rfl) (Nat.zero_add _) (Nat.zero_add _) rfl ?_
      refine r_emit (c := (-(tp ρ.1.2.1))) Hc8 Wc10.1 (fun hp12 Hr13 fz14 => ?_)
      have fyfz14 : ∀ k, (k < 39 ∨ 43 ≤ k) → hp12 k = _ := fun k hk => fz14 k hk
      have Wf15 : WR L tp (emF (-(tp ρ.1.2.1)) ((P) (avF L tp ρ))) := wr_em Wc10.1
      refine aw_iinc (npc := 60) (v := nI (i + 1)) (L' := [some (.ref 39), some (.int (nI (i + 1))), some (.int (tp ρ.1.2.1))]) dX1_readProduct_57 rfl rfl (nI_1 _) (by decide) rfl rfl ?_
      refine aw_goto (npc := 6) dX1_readProduct_60 (by decide) ?_
      refine ih (i + 1) (by omega) _ _ _ Hr13 Wf15 hd11 (fun h9 H9 f9 => hq h9 (rx_c ?_ H9) (am_fpT f9 (am_fpT (fun k (hk : k < 39 ∨ 43 ≤ k) => fyfz14 k (by omega)) (am_fpT (fun k (hk : k < 39 ∨ 43 ≤ k) => fyfz9 k (by omega)) (am_fpT (fun k (hk : k < 39 ∨ 43 ≤ k) => fyfz5 k (by omega)) am_fp0)))))
      exact (cI_t (show (sgP tp) ρ from Or.inl hg2)).symm
    · refine aw_re (S' := [.int 0]) rfl ?_
      refine aw_if_ne (npc := 21) (tgt := 30) dX1_readProduct_18 rfl (by decide) (fun hc => absurd (by decide) hc) (fun _ => ?_)
      refine aw_aload_n (npc := 22) rfl dX1_readProduct_21 rfl ?_
      refine aw_bipush (npc := 24) (v := 47) (by decide) dX1_readProduct_22 rfl ?_
      refine aw_callV (npc := 27) (N := mX1_isSign) (b := 39) (mc := 0) (ms := 0) (A := [.int 47]) (S := []) (L0 := [some (.ref 39), some (.int 47)]) dX1_readProduct_24 rfl km_X1_isSign kk_X1_105 Rd1u.1 ⟨by decide, rfl⟩ rfl ⟨rfl, by decide⟩ rfl (Nat.le_of_ble_eq_true rfl) (Nat.zero_add _) (Nat.zero_add _) rfl ?_
      refine r_isSign (c := 47) H Wf (fun hg16 => ?_) (fun hg16 => ?_)
      · refine aw_re (S' := [.int 1]) rfl ?_
        refine aw_if_eq (npc := 30) (tgt := 63) dX1_readProduct_27 rfl (by decide) (fun hc => absurd hc (by decide)) (fun _ => ?_)
        have wf3 : ρ.1.2.1 < ρ.1.2.2 := wk.2.2.2.2.2.1 (by have z := hg16.2.1; omega)
        refine aw_aload_n (npc := 31) rfl dX1_readProduct_30 rfl ?_
        refine aw_get (npc := 34) dX1_readProduct_31 rfl kf_X1_12 Rd1u.1 rfl ?_
        refine aw_get (npc := 37) dX1_readProduct_34 rfl kf_X1_76 Rd1u.2.1 rfl ?_
        refine aw_aload_n (npc := 38) rfl dX1_readProduct_37 rfl ?_
        refine aw_get (npc := 41) dX1_readProduct_38 rfl kf_X1_25 Rd1u.1 rfl ?_
        refine aw_top (y := nI ρ.1.2.1) (m3_1) ?_
        refine aw_iald (npc := 42) (x := tp ρ.1.2.1) (j := ρ.1.2.1) dX1_readProduct_41 rfl Rd1u.2.2.1 (am_ix_nI (by omega)) (tl_at (by omega)) ?_
        refine aw_istore_n (npc := 43) (L' := [some (.ref 39), some (.int (nI i)), some (.int (tp ρ.1.2.1))]) dX1_readProduct_42 rfl (by decide) rfl rfl ?_
        refine aw_aload_n (npc := 44) rfl dX1_readProduct_43 rfl ?_
        refine aw_callV (npc := 47) (N := mX1_advance) (b := 39) (mc := 0) (ms := 0) (A := []) (S := []) (L0 := [some (.ref 39), none, none, none]) dX1_readProduct_44 rfl km_X1_advance kk_X1_50 Rd1u.1 ⟨by decide, rfl⟩ rfl ⟨rfl, by decide⟩ rfl (Nat.le_of_ble_eq_true rfl) (Nat.zero_add _) (Nat.zero_add _) rfl ?_
        refine r_adv  H Wf (fun hp17 Hr18 fz19 => ?_)
        have fyfz19 : ∀ k, (k < 39 ∨ 43 ≤ k) → hp17 k = _ := fun k hk => fz19 k hk
        have Wf20 : WR L tp (avF L tp ρ) := wr_av Wf
        refine aw_aload_n (npc := 48) rfl dX1_readProduct_47 rfl ?_
        obtain ⟨r4u, cd4u, Rd4u, m1_4, m2_4, m3_4, m4_4, m5_4, m7_4, m8_4, m9_4, m10_4, mc_4⟩ := id Hr18
        refine aw_callV (npc := 51) (N := mX1_readPiece) (b := 39) (mc := 0) (ms := 0) (A := []) (S := []) (L0 := [some (.ref 39)]) dX1_readProduct_48 rfl km_X1_readPiece kk_X1_122 Rd4u.1 ⟨by decide, rfl⟩ rfl ⟨rfl, by decide⟩ rfl (Nat.le_of_ble_eq_true rfl) (Nat.zero_add _) (Nat.zero_add _) rfl ?_
        refine aw_dd (d2 := d + 4 + q) (by omega) ?_
        refine hG _ _ _ _ _ _ _ (avF L tp ρ) Hr18 Wf20 hd (fun hp21 Hc22 fz23 => ?_)
        have Wc24 := hO (avF L tp ρ) Wf20 hd
        have fyfz23 : ∀ k, (k < 39 ∨ 43 ≤ k) → hp21 k = _ := fun k hk => fz23 k hk
        have hd25 : 17 ≤ D + ((P) (avF L tp ρ)).2.2.2.2.2.1 + ((P) (avF L tp ρ)).2.2.2.2.2.2 := kp_d Wc24.2 hd
        refine aw_aload_n (npc := 52) rfl dX1_readProduct_51 rfl ?_
        refine aw_iload_n (npc := 53) rfl dX1_readProduct_52 rfl ?_
        refine aw_ineg (npc := 54) dX1_readProduct_53 rfl ?_
        obtain ⟨r5u, cd5u, Rd5u, m1_5, m2_5, m3_5, m4_5, m5_5, m7_5, m8_5, m9_5, m10_5, mc_5⟩ := id Hc22
        refine aw_callV (npc := 57) (N := mX1_emit) (b := 39) (mc := 0) (ms := 0) (A := [.int (-(tp ρ.1.2.1))]) (S := []) (L0 := [some (.ref 39), some (.int (-(tp ρ.1.2.1)))]) dX1_readProduct_54 rfl km_X1_emit kk_X1_109 Rd5u.1 ⟨by decide, rfl⟩ rfl ⟨rfl, by decide⟩ rfl (Nat.le_of_ble_eq_true rfl) (Nat.zero_add _) (Nat.zero_add _) rfl ?_
        refine r_emit (c := (-(tp ρ.1.2.1))) Hc22 Wc24.1 (fun hp26 Hr27 fz28 => ?_)
        have fyfz28 : ∀ k, (k < 39 ∨ 43 ≤ k) → hp26 k = _ := fun k hk => fz28 k hk
        have Wf29 : WR L tp (emF (-(tp ρ.1.2.1)) ((P) (avF L tp ρ))) := wr_em Wc24.1
        refine aw_iinc (npc := 60) (v := nI (i + 1)) (L' := [some (.ref 39), some (.int (nI (i + 1))), some (.int (tp ρ.1.2.1))]) dX1_readProduct_57 rfl rfl (nI_1 _) (by decide) rfl rfl ?_
        refine aw_goto (npc := 6) dX1_readProduct_60 (by decide) ?_
        refine ih (i + 1) (by omega) _ _ _ Hr27 Wf29 hd25 (fun h9 H9 f9 => hq h9 (rx_c ?_ H9) (am_fpT f9 (am_fpT (fun k (hk : k < 39 ∨ 43 ≤ k) => fyfz28 k (by omega)) (am_fpT (fun k (hk : k < 39 ∨ 43 ≤ k) => fyfz23 k (by omega)) (am_fpT (fun k (hk : k < 39 ∨ 43 ≤ k) => fyfz19 k (by omega)) am_fp0)))))
        exact (cI_t (show (sgP tp) ρ from Or.inr hg16)).symm
      · refine aw_re (S' := [.int 0]) rfl ?_
        refine aw_if_eq (npc := 30) (tgt := 63) dX1_readProduct_27 rfl (by decide) (fun _ => ?_) (fun hc => absurd (by decide) hc)
        refine aw_vret rfl dX1_readProduct_63 ?_
        exact hq _ (rx_c (cI_f (show ¬ ((sgP tp) ρ) from fun z => z.elim hg2 hg16)).symm H) am_fp0
set_option maxHeartbeats 4000000 in
set_option maxRecDepth 100000 in
theorem r_prod {L : Nat} {tp : Nat → Int32} {D q : Nat} {P : RS → RS} (hG : CM L tp mX1_readPiece [some (.ref 39)] q D P) (hO : PO L tp D (P)) : CM L tp mX1_readProduct [some (.ref 39), none, none] (q + 5) D (fun ρ => lpF L tp (P) (sgP tp) 96 (P ρ)) := by
  intro X d rc rs n Q h ρ H Wf hd hq
  refine aw_dd (d2 := d + q + 5) (by omega) ?_
  refine aw_aload_n (npc := 1) rfl dX1_readProduct_0 rfl ?_
  obtain ⟨r1u, cd1u, Rd1u, m1_1, m2_1, m3_1, m4_1, m5_1, m7_1, m8_1, m9_1, m10_1, mc_1⟩ := id H
  refine aw_callV (npc := 4) (N := mX1_readPiece) (b := 39) (mc := 0) (ms := 0) (A := []) (S := []) (L0 := [some (.ref 39)]) dX1_readProduct_1 rfl km_X1_readPiece kk_X1_122 Rd1u.1 ⟨by decide, rfl⟩ rfl ⟨rfl, by decide⟩ rfl (Nat.le_of_ble_eq_true rfl) (Nat.zero_add _) (Nat.zero_add _) rfl ?_
  refine aw_dd (d2 := d + 4 + q) (by omega) ?_
  refine hG _ _ _ _ _ _ _ (ρ) H Wf hd (fun hp1 Hc2 fz3 => ?_)
  have Wc4 := hO (ρ) Wf hd
  have fyfz3 : ∀ k, (k < 39 ∨ 43 ≤ k) → hp1 k = _ := fun k hk => fz3 k hk
  have hd5 : 17 ≤ D + ((P) (ρ)).2.2.2.2.2.1 + ((P) (ρ)).2.2.2.2.2.2 := kp_d Wc4.2 hd
  refine aw_iconst (npc := 5) (v := 0) (by decide) dX1_readProduct_4 rfl ?_
  refine aw_istore_n (npc := 6) (L' := [some (.ref 39), some (.int 0), none]) dX1_readProduct_5 rfl (by decide) rfl rfl ?_
  refine aw_locs (L' := [some (.ref 39), some (.int (nI 0)), none]) rfl ?_
  exact r_prodL hG hO 96 0 (by omega) _ _ _ Hc2 Wc4.1 hd5 (fun h9 H9 f9 => hq h9 H9 (am_fpT f9 (am_fpT (fun k (hk : k < 39 ∨ 43 ≤ k) => fyfz3 k (by omega)) am_fp0)))
set_option maxHeartbeats 4000000 in
set_option maxRecDepth 100000 in
theorem r_sumL {L : Nat} {tp : Nat → Int32} {D q : Nat} {P : RS → RS} (hG : CM L tp mX1_readProduct [some (.ref 39), none, none] q D (pdF L tp P)) (hO : PO L tp D (pdF L tp P)) {X : List Int32} {d rc rs n : Nat} {Q : am_Q} : ∀ (m i : Nat), i + m = 96 → ∀ (v2 : Option Value) (ρ : RS) (h : am_H), RX ρ L tp h → WR L tp ρ → 17 ≤ D + ρ.2.2.2.2.2.1 + ρ.2.2.2.2.2.2 → (∀ h9, RX (lpF L tp (pdF L tp P) (sgS tp) m ρ) L tp h9 → am_fp (fun k => k < 39 ∨ 43 ≤ k) h9 h → Q none n h9) → AW X mX1_readSum (d + q + 5) rc rs 6 [some (.ref 39), some (.int (nI i)), v2] [] n h Q := by
  intro m
  induction m with
  | zero =>
    intro i hi v2 ρ h H Wf hd hq
    obtain rfl : i = 96 := by omega
    refine aw_iload_n (npc := 7) rfl dX1_readSum_6 rfl ?_
    refine aw_bipush (npc := 9) (v := 96) (by decide) dX1_readSum_7 rfl ?_
    refine aw_icmp_ge (npc := 12) (tgt := 63) dX1_readSum_9 rfl (by decide) (fun _ => ?_) (fun hc => absurd (nI_le (a := 96) (b := 96) (by omega) (by omega)) hc)
    refine aw_vret rfl dX1_readSum_63 ?_
    exact hq _ H am_fp0
  | succ m ih =>
    intro i hi v2 ρ h H Wf hd hq
    obtain ⟨wk, w96, wcl, wob, wog, wft⟩ := id Wf
    have we := wk.1
    have wf := wk.2.1
    refine aw_iload_n (npc := 7) rfl dX1_readSum_6 rfl ?_
    refine aw_bipush (npc := 9) (v := 96) (by decide) dX1_readSum_7 rfl ?_
    refine aw_icmp_ge (npc := 12) (tgt := 63) dX1_readSum_9 rfl (by decide) (fun hc => absurd hc (nI_ge (a := i) (b := 96) (by omega) (by omega))) (fun _ => ?_)
    refine aw_aload_n (npc := 13) rfl dX1_readSum_12 rfl ?_
    refine aw_bipush (npc := 15) (v := 43) (by decide) dX1_readSum_13 rfl ?_
    obtain ⟨r1u, cd1u, Rd1u, m1_1, m2_1, m3_1, m4_1, m5_1, m7_1, m8_1, m9_1, m10_1, mc_1⟩ := id H
    refine aw_callV (npc := 18) (N := mX1_isSign) (b := 39) (mc := 0) (ms := 0) (A := [.int 43]) (S := []) (L0 := [some (.ref 39), some (.int 43)]) dX1_readSum_15 rfl km_X1_isSign kk_X1_105 Rd1u.1 ⟨by decide, rfl⟩ rfl ⟨rfl, by decide⟩ rfl (Nat.le_of_ble_eq_true rfl) (Nat.zero_add _) (Nat.zero_add _) rfl ?_
    refine r_isSign (c := 43) H Wf (fun hg2 => ?_) (fun hg2 => ?_)
    · refine aw_re (S' := [.int 1]) rfl ?_
      refine aw_if_ne (npc := 21) (tgt := 30) dX1_readSum_18 rfl (by decide) (fun _ => ?_) (fun hc => absurd hc (by decide))
      have wf3 : ρ.1.2.1 < ρ.1.2.2 := wk.2.2.2.2.2.1 (by have z := hg2.2.1; omega)
      refine aw_aload_n (npc := 31) rfl dX1_readSum_30 rfl ?_
      refine aw_get (npc := 34) dX1_readSum_31 rfl kf_X1_12 Rd1u.1 rfl ?_
      refine aw_get (npc := 37) dX1_readSum_34 rfl kf_X1_76 Rd1u.2.1 rfl ?_
      refine aw_aload_n (npc := 38) rfl dX1_readSum_37 rfl ?_
      refine aw_get (npc := 41) dX1_readSum_38 rfl kf_X1_25 Rd1u.1 rfl ?_
      refine aw_top (y := nI ρ.1.2.1) (m3_1) ?_
      refine aw_iald (npc := 42) (x := tp ρ.1.2.1) (j := ρ.1.2.1) dX1_readSum_41 rfl Rd1u.2.2.1 (am_ix_nI (by omega)) (tl_at (by omega)) ?_
      refine aw_istore_n (npc := 43) (L' := [some (.ref 39), some (.int (nI i)), some (.int (tp ρ.1.2.1))]) dX1_readSum_42 rfl (by decide) rfl rfl ?_
      refine aw_aload_n (npc := 44) rfl dX1_readSum_43 rfl ?_
      refine aw_callV (npc := 47) (N := mX1_advance) (b := 39) (mc := 0) (ms := 0) (A := []) (S := []) (L0 := [some (.ref 39), none, none, none]) dX1_readSum_44 rfl km_X1_advance kk_X1_50 Rd1u.1 ⟨by decide, rfl⟩ rfl ⟨rfl, by decide⟩ rfl (Nat.le_of_ble_eq_true rfl) (Nat.zero_add _) (Nat.zero_add _) rfl ?_
      refine r_adv  H Wf (fun hp3 Hr4 fz5 => ?_)
      have fyfz5 : ∀ k, (k < 39 ∨ 43 ≤ k) → hp3 k = _ := fun k hk => fz5 k hk
      have Wf6 : WR L tp (avF L tp ρ) := wr_av Wf
      refine aw_aload_n (npc := 48) rfl dX1_readSum_47 rfl ?_
      obtain ⟨r2u, cd2u, Rd2u, m1_2, m2_2, m3_2, m4_2, m5_2, m7_2, m8_2, m9_2, m10_2, mc_2⟩ := id Hr4
      refine aw_callV (npc := 51) (N := mX1_readProduct) (b := 39) (mc := 0) (ms := 0) (A := []) (S := []) (L0 := [some (.ref 39), none, none]) dX1_readSum_48 rfl km_X1_readProduct kk_X1_119 Rd2u.1 ⟨by decide, rfl⟩ rfl ⟨rfl, by decide⟩ rfl (Nat.le_of_ble_eq_true rfl) (Nat.zero_add _) (Nat.zero_add _) rfl ?_
      refine aw_dd (d2 := d + 4 + q) (by omega) ?_
      refine hG _ _ _ _ _ _ _ (avF L tp ρ) Hr4 Wf6 hd (fun hp7 Hc8 fz9 => ?_)
      have Wc10 := hO (avF L tp ρ) Wf6 hd
      have fyfz9 : ∀ k, (k < 39 ∨ 43 ≤ k) → hp7 k = _ := fun k hk => fz9 k hk
      have hd11 : 17 ≤ D + ((pdF L tp P) (avF L tp ρ)).2.2.2.2.2.1 + ((pdF L tp P) (avF L tp ρ)).2.2.2.2.2.2 := kp_d Wc10.2 hd
      refine aw_aload_n (npc := 52) rfl dX1_readSum_51 rfl ?_
      refine aw_iload_n (npc := 53) rfl dX1_readSum_52 rfl ?_
      refine aw_ineg (npc := 54) dX1_readSum_53 rfl ?_
      obtain ⟨r3u, cd3u, Rd3u, m1_3, m2_3, m3_3, m4_3, m5_3, m7_3, m8_3, m9_3, m10_3, mc_3⟩ := id Hc8
      refine aw_callV (npc := 57) (N := mX1_emit) (b := 39) (mc := 0) (ms := 0) (A := [.int (-(tp ρ.1.2.1))]) (S := []) (L0 := [some (.ref 39), some (.int (-(tp ρ.1.2.1)))]) dX1_readSum_54 rfl km_X1_emit kk_X1_109 Rd3u.1 ⟨by decide, rfl⟩ rfl ⟨rfl, by decide⟩ rfl (Nat.le_of_ble_eq_true rfl) (Nat.zero_add _) (Nat.zero_add _) rfl ?_
      refine r_emit (c := (-(tp ρ.1.2.1))) Hc8 Wc10.1 (fun hp12 Hr13 fz14 => ?_)
      have fyfz14 : ∀ k, (k < 39 ∨ 43 ≤ k) → hp12 k = _ := fun k hk => fz14 k hk
      have Wf15 : WR L tp (emF (-(tp ρ.1.2.1)) ((pdF L tp P) (avF L tp ρ))) := wr_em Wc10.1
      refine aw_iinc (npc := 60) (v := nI (i + 1)) (L' := [some (.ref 39), some (.int (nI (i + 1))), some (.int (tp ρ.1.2.1))]) dX1_readSum_57 rfl rfl (nI_1 _) (by decide) rfl rfl ?_
      refine aw_goto (npc := 6) dX1_readSum_60 (by decide) ?_
      refine ih (i + 1) (by omega) _ _ _ Hr13 Wf15 hd11 (fun h9 H9 f9 => hq h9 (rx_c ?_ H9) (am_fpT f9 (am_fpT (fun k (hk : k < 39 ∨ 43 ≤ k) => fyfz14 k (by omega)) (am_fpT (fun k (hk : k < 39 ∨ 43 ≤ k) => fyfz9 k (by omega)) (am_fpT (fun k (hk : k < 39 ∨ 43 ≤ k) => fyfz5 k (by omega)) am_fp0)))))
      exact (cI_t (show (sgS tp) ρ from Or.inl hg2)).symm
    · refine aw_re (S' := [.int 0]) rfl ?_
      refine aw_if_ne (npc := 21) (tgt := 30) dX1_readSum_18 rfl (by decide) (fun hc => absurd (by decide) hc) (fun _ => ?_)
      refine aw_aload_n (npc := 22) rfl dX1_readSum_21 rfl ?_
      refine aw_bipush (npc := 24) (v := 45) (by decide) dX1_readSum_22 rfl ?_
      refine aw_callV (npc := 27) (N := mX1_isSign) (b := 39) (mc := 0) (ms := 0) (A := [.int 45]) (S := []) (L0 := [some (.ref 39), some (.int 45)]) dX1_readSum_24 rfl km_X1_isSign kk_X1_105 Rd1u.1 ⟨by decide, rfl⟩ rfl ⟨rfl, by decide⟩ rfl (Nat.le_of_ble_eq_true rfl) (Nat.zero_add _) (Nat.zero_add _) rfl ?_
      refine r_isSign (c := 45) H Wf (fun hg16 => ?_) (fun hg16 => ?_)
      · refine aw_re (S' := [.int 1]) rfl ?_
        refine aw_if_eq (npc := 30) (tgt := 63) dX1_readSum_27 rfl (by decide) (fun hc => absurd hc (by decide)) (fun _ => ?_)
        have wf3 : ρ.1.2.1 < ρ.1.2.2 := wk.2.2.2.2.2.1 (by have z := hg16.2.1; omega)
        refine aw_aload_n (npc := 31) rfl dX1_readSum_30 rfl ?_
        refine aw_get (npc := 34) dX1_readSum_31 rfl kf_X1_12 Rd1u.1 rfl ?_
        refine aw_get (npc := 37) dX1_readSum_34 rfl kf_X1_76 Rd1u.2.1 rfl ?_
        refine aw_aload_n (npc := 38) rfl dX1_readSum_37 rfl ?_
        refine aw_get (npc := 41) dX1_readSum_38 rfl kf_X1_25 Rd1u.1 rfl ?_
        refine aw_top (y := nI ρ.1.2.1) (m3_1) ?_
        refine aw_iald (npc := 42) (x := tp ρ.1.2.1) (j := ρ.1.2.1) dX1_readSum_41 rfl Rd1u.2.2.1 (am_ix_nI (by omega)) (tl_at (by omega)) ?_
        refine aw_istore_n (npc := 43) (L' := [some (.ref 39), some (.int (nI i)), some (.int (tp ρ.1.2.1))]) dX1_readSum_42 rfl (by decide) rfl rfl ?_
        refine aw_aload_n (npc := 44) rfl dX1_readSum_43 rfl ?_
        refine aw_callV (npc := 47) (N := mX1_advance) (b := 39) (mc := 0) (ms := 0) (A := []) (S := []) (L0 := [some (.ref 39), none, none, none]) dX1_readSum_44 rfl km_X1_advance kk_X1_50 Rd1u.1 ⟨by decide, rfl⟩ rfl ⟨rfl, by decide⟩ rfl (Nat.le_of_ble_eq_true rfl) (Nat.zero_add _) (Nat.zero_add _) rfl ?_
        refine r_adv  H Wf (fun hp17 Hr18 fz19 => ?_)
        have fyfz19 : ∀ k, (k < 39 ∨ 43 ≤ k) → hp17 k = _ := fun k hk => fz19 k hk
        have Wf20 : WR L tp (avF L tp ρ) := wr_av Wf
        refine aw_aload_n (npc := 48) rfl dX1_readSum_47 rfl ?_
        obtain ⟨r4u, cd4u, Rd4u, m1_4, m2_4, m3_4, m4_4, m5_4, m7_4, m8_4, m9_4, m10_4, mc_4⟩ := id Hr18
        refine aw_callV (npc := 51) (N := mX1_readProduct) (b := 39) (mc := 0) (ms := 0) (A := []) (S := []) (L0 := [some (.ref 39), none, none]) dX1_readSum_48 rfl km_X1_readProduct kk_X1_119 Rd4u.1 ⟨by decide, rfl⟩ rfl ⟨rfl, by decide⟩ rfl (Nat.le_of_ble_eq_true rfl) (Nat.zero_add _) (Nat.zero_add _) rfl ?_
        refine aw_dd (d2 := d + 4 + q) (by omega) ?_
        refine hG _ _ _ _ _ _ _ (avF L tp ρ) Hr18 Wf20 hd (fun hp21 Hc22 fz23 => ?_)
        have Wc24 := hO (avF L tp ρ) Wf20 hd
        have fyfz23 : ∀ k, (k < 39 ∨ 43 ≤ k) → hp21 k = _ := fun k hk => fz23 k hk
        have hd25 : 17 ≤ D + ((pdF L tp P) (avF L tp ρ)).2.2.2.2.2.1 + ((pdF L tp P) (avF L tp ρ)).2.2.2.2.2.2 := kp_d Wc24.2 hd
        refine aw_aload_n (npc := 52) rfl dX1_readSum_51 rfl ?_
        refine aw_iload_n (npc := 53) rfl dX1_readSum_52 rfl ?_
        refine aw_ineg (npc := 54) dX1_readSum_53 rfl ?_
        obtain ⟨r5u, cd5u, Rd5u, m1_5, m2_5, m3_5, m4_5, m5_5, m7_5, m8_5, m9_5, m10_5, mc_5⟩ := id Hc22
        refine aw_callV (npc := 57) (N := mX1_emit) (b := 39) (mc := 0) (ms := 0) (A := [.int (-(tp ρ.1.2.1))]) (S := []) (L0 := [some (.ref 39), some (.int (-(tp ρ.1.2.1)))]) dX1_readSum_54 rfl km_X1_emit kk_X1_109 Rd5u.1 ⟨by decide, rfl⟩ rfl ⟨rfl, by decide⟩ rfl (Nat.le_of_ble_eq_true rfl) (Nat.zero_add _) (Nat.zero_add _) rfl ?_
        refine r_emit (c := (-(tp ρ.1.2.1))) Hc22 Wc24.1 (fun hp26 Hr27 fz28 => ?_)
        have fyfz28 : ∀ k, (k < 39 ∨ 43 ≤ k) → hp26 k = _ := fun k hk => fz28 k hk
        have Wf29 : WR L tp (emF (-(tp ρ.1.2.1)) ((pdF L tp P) (avF L tp ρ))) := wr_em Wc24.1
        refine aw_iinc (npc := 60) (v := nI (i + 1)) (L' := [some (.ref 39), some (.int (nI (i + 1))), some (.int (tp ρ.1.2.1))]) dX1_readSum_57 rfl rfl (nI_1 _) (by decide) rfl rfl ?_
        refine aw_goto (npc := 6) dX1_readSum_60 (by decide) ?_
        refine ih (i + 1) (by omega) _ _ _ Hr27 Wf29 hd25 (fun h9 H9 f9 => hq h9 (rx_c ?_ H9) (am_fpT f9 (am_fpT (fun k (hk : k < 39 ∨ 43 ≤ k) => fyfz28 k (by omega)) (am_fpT (fun k (hk : k < 39 ∨ 43 ≤ k) => fyfz23 k (by omega)) (am_fpT (fun k (hk : k < 39 ∨ 43 ≤ k) => fyfz19 k (by omega)) am_fp0)))))
        exact (cI_t (show (sgS tp) ρ from Or.inr hg16)).symm
      · refine aw_re (S' := [.int 0]) rfl ?_
        refine aw_if_eq (npc := 30) (tgt := 63) dX1_readSum_27 rfl (by decide) (fun _ => ?_) (fun hc => absurd (by decide) hc)
        refine aw_vret rfl dX1_readSum_63 ?_
        exact hq _ (rx_c (cI_f (show ¬ ((sgS tp) ρ) from fun z => z.elim hg2 hg16)).symm H) am_fp0
set_option maxHeartbeats 4000000 in
set_option maxRecDepth 100000 in
theorem r_sum {L : Nat} {tp : Nat → Int32} {D q : Nat} {P : RS → RS} (hG : CM L tp mX1_readProduct [some (.ref 39), none, none] q D (pdF L tp P)) (hO : PO L tp D (pdF L tp P)) : CM L tp mX1_readSum [some (.ref 39), none, none] (q + 5) D (fun ρ => lpF L tp (pdF L tp P) (sgS tp) 96 (pdF L tp P ρ)) := by
  intro X d rc rs n Q h ρ H Wf hd hq
  refine aw_dd (d2 := d + q + 5) (by omega) ?_
  refine aw_aload_n (npc := 1) rfl dX1_readSum_0 rfl ?_
  obtain ⟨r1u, cd1u, Rd1u, m1_1, m2_1, m3_1, m4_1, m5_1, m7_1, m8_1, m9_1, m10_1, mc_1⟩ := id H
  refine aw_callV (npc := 4) (N := mX1_readProduct) (b := 39) (mc := 0) (ms := 0) (A := []) (S := []) (L0 := [some (.ref 39), none, none]) dX1_readSum_1 rfl km_X1_readProduct kk_X1_119 Rd1u.1 ⟨by decide, rfl⟩ rfl ⟨rfl, by decide⟩ rfl (Nat.le_of_ble_eq_true rfl) (Nat.zero_add _) (Nat.zero_add _) rfl ?_
  refine aw_dd (d2 := d + 4 + q) (by omega) ?_
  refine hG _ _ _ _ _ _ _ (ρ) H Wf hd (fun hp1 Hc2 fz3 => ?_)
  have Wc4 := hO (ρ) Wf hd
  have fyfz3 : ∀ k, (k < 39 ∨ 43 ≤ k) → hp1 k = _ := fun k hk => fz3 k hk
  have hd5 : 17 ≤ D + ((pdF L tp P) (ρ)).2.2.2.2.2.1 + ((pdF L tp P) (ρ)).2.2.2.2.2.2 := kp_d Wc4.2 hd
  refine aw_iconst (npc := 5) (v := 0) (by decide) dX1_readSum_4 rfl ?_
  refine aw_istore_n (npc := 6) (L' := [some (.ref 39), some (.int 0), none]) dX1_readSum_5 rfl (by decide) rfl rfl ?_
  refine aw_locs (L' := [some (.ref 39), some (.int (nI 0)), none]) rfl ?_
  exact r_sumL hG hO 96 0 (by omega) _ _ _ Hc2 Wc4.1 hd5 (fun h9 H9 f9 => hq h9 H9 (am_fpT f9 (am_fpT (fun k (hk : k < 39 ∨ 43 ≤ k) => fyfz3 k (by omega)) am_fp0)))
set_option maxHeartbeats 4000000 in
set_option maxRecDepth 100000 in
theorem r_andL {L : Nat} {tp : Nat → Int32} {D q : Nat} {P : RS → RS} (hG : CM L tp mX1_readTest [some (.ref 39), none] q D (tsF L tp P)) (hO : PO L tp D (tsF L tp P)) {X : List Int32} {d rc rs n : Nat} {Q : am_Q} : ∀ (m i : Nat), i + m = 96 → ∀ (ρ : RS) (h : am_H), RX ρ L tp h → WR L tp ρ → 17 ≤ D + ρ.2.2.2.2.2.1 + ρ.2.2.2.2.2.2 → (∀ h9, RX (lpF L tp (tsF L tp P) (fun ρ => isSg tp ρ 38) m ρ) L tp h9 → am_fp (fun k => k < 39 ∨ 43 ≤ k) h9 h → Q none n h9) → AW X mX1_readAnd (d + q + 5) rc rs 6 [some (.ref 39), some (.int (nI i))] [] n h Q := by
  intro m
  induction m with
  | zero =>
    intro i hi ρ h H Wf hd hq
    obtain rfl : i = 96 := by omega
    refine aw_iload_n (npc := 7) rfl dX1_readAnd_6 rfl ?_
    refine aw_bipush (npc := 9) (v := 96) (by decide) dX1_readAnd_7 rfl ?_
    refine aw_icmp_ge (npc := 12) (tgt := 41) dX1_readAnd_9 rfl (by decide) (fun _ => ?_) (fun hc => absurd (nI_le (a := 96) (b := 96) (by omega) (by omega)) hc)
    refine aw_vret rfl dX1_readAnd_41 ?_
    exact hq _ H am_fp0
  | succ m ih =>
    intro i hi ρ h H Wf hd hq
    obtain ⟨wk, w96, wcl, wob, wog, wft⟩ := id Wf
    have we := wk.1
    have wf := wk.2.1
    refine aw_iload_n (npc := 7) rfl dX1_readAnd_6 rfl ?_
    refine aw_bipush (npc := 9) (v := 96) (by decide) dX1_readAnd_7 rfl ?_
    refine aw_icmp_ge (npc := 12) (tgt := 41) dX1_readAnd_9 rfl (by decide) (fun hc => absurd hc (nI_ge (a := i) (b := 96) (by omega) (by omega))) (fun _ => ?_)
    refine aw_aload_n (npc := 13) rfl dX1_readAnd_12 rfl ?_
    refine aw_bipush (npc := 15) (v := 38) (by decide) dX1_readAnd_13 rfl ?_
    obtain ⟨r1u, cd1u, Rd1u, m1_1, m2_1, m3_1, m4_1, m5_1, m7_1, m8_1, m9_1, m10_1, mc_1⟩ := id H
    refine aw_callV (npc := 18) (N := mX1_isSign) (b := 39) (mc := 0) (ms := 0) (A := [.int 38]) (S := []) (L0 := [some (.ref 39), some (.int 38)]) dX1_readAnd_15 rfl km_X1_isSign kk_X1_105 Rd1u.1 ⟨by decide, rfl⟩ rfl ⟨rfl, by decide⟩ rfl (Nat.le_of_ble_eq_true rfl) (Nat.zero_add _) (Nat.zero_add _) rfl ?_
    refine r_isSign (c := 38) H Wf (fun hg2 => ?_) (fun hg2 => ?_)
    · refine aw_re (S' := [.int 1]) rfl ?_
      refine aw_if_eq (npc := 21) (tgt := 41) dX1_readAnd_18 rfl (by decide) (fun hc => absurd hc (by decide)) (fun _ => ?_)
      refine aw_aload_n (npc := 22) rfl dX1_readAnd_21 rfl ?_
      refine aw_callV (npc := 25) (N := mX1_advance) (b := 39) (mc := 0) (ms := 0) (A := []) (S := []) (L0 := [some (.ref 39), none, none, none]) dX1_readAnd_22 rfl km_X1_advance kk_X1_50 Rd1u.1 ⟨by decide, rfl⟩ rfl ⟨rfl, by decide⟩ rfl (Nat.le_of_ble_eq_true rfl) (Nat.zero_add _) (Nat.zero_add _) rfl ?_
      refine r_adv  H Wf (fun hp3 Hr4 fz5 => ?_)
      have fyfz5 : ∀ k, (k < 39 ∨ 43 ≤ k) → hp3 k = _ := fun k hk => fz5 k hk
      have Wf6 : WR L tp (avF L tp ρ) := wr_av Wf
      refine aw_aload_n (npc := 26) rfl dX1_readAnd_25 rfl ?_
      obtain ⟨r2u, cd2u, Rd2u, m1_2, m2_2, m3_2, m4_2, m5_2, m7_2, m8_2, m9_2, m10_2, mc_2⟩ := id Hr4
      refine aw_callV (npc := 29) (N := mX1_readTest) (b := 39) (mc := 0) (ms := 0) (A := []) (S := []) (L0 := [some (.ref 39), none]) dX1_readAnd_26 rfl km_X1_readTest kk_X1_113 Rd2u.1 ⟨by decide, rfl⟩ rfl ⟨rfl, by decide⟩ rfl (Nat.le_of_ble_eq_true rfl) (Nat.zero_add _) (Nat.zero_add _) rfl ?_
      refine aw_dd (d2 := d + 4 + q) (by omega) ?_
      refine hG _ _ _ _ _ _ _ (avF L tp ρ) Hr4 Wf6 hd (fun hp7 Hc8 fz9 => ?_)
      have Wc10 := hO (avF L tp ρ) Wf6 hd
      have fyfz9 : ∀ k, (k < 39 ∨ 43 ≤ k) → hp7 k = _ := fun k hk => fz9 k hk
      have hd11 : 17 ≤ D + ((tsF L tp P) (avF L tp ρ)).2.2.2.2.2.1 + ((tsF L tp P) (avF L tp ρ)).2.2.2.2.2.2 := kp_d Wc10.2 hd
      refine aw_aload_n (npc := 30) rfl dX1_readAnd_29 rfl ?_
      refine aw_bipush (npc := 32) (v := -38) (by decide) dX1_readAnd_30 rfl ?_
      obtain ⟨r3u, cd3u, Rd3u, m1_3, m2_3, m3_3, m4_3, m5_3, m7_3, m8_3, m9_3, m10_3, mc_3⟩ := id Hc8
      refine aw_callV (npc := 35) (N := mX1_emit) (b := 39) (mc := 0) (ms := 0) (A := [.int (-38)]) (S := []) (L0 := [some (.ref 39), some (.int (-38))]) dX1_readAnd_32 rfl km_X1_emit kk_X1_109 Rd3u.1 ⟨by decide, rfl⟩ rfl ⟨rfl, by decide⟩ rfl (Nat.le_of_ble_eq_true rfl) (Nat.zero_add _) (Nat.zero_add _) rfl ?_
      refine r_emit (c := (-38)) Hc8 Wc10.1 (fun hp12 Hr13 fz14 => ?_)
      have fyfz14 : ∀ k, (k < 39 ∨ 43 ≤ k) → hp12 k = _ := fun k hk => fz14 k hk
      have Wf15 : WR L tp (emF (-38) ((tsF L tp P) (avF L tp ρ))) := wr_em Wc10.1
      refine aw_iinc (npc := 38) (v := nI (i + 1)) (L' := [some (.ref 39), some (.int (nI (i + 1)))]) dX1_readAnd_35 rfl rfl (nI_1 _) (by decide) rfl rfl ?_
      refine aw_goto (npc := 6) dX1_readAnd_38 (by decide) ?_
      refine ih (i + 1) (by omega) _ _ Hr13 Wf15 hd11 (fun h9 H9 f9 => hq h9 (rx_c ?_ H9) (am_fpT f9 (am_fpT (fun k (hk : k < 39 ∨ 43 ≤ k) => fyfz14 k (by omega)) (am_fpT (fun k (hk : k < 39 ∨ 43 ≤ k) => fyfz9 k (by omega)) (am_fpT (fun k (hk : k < 39 ∨ 43 ≤ k) => fyfz5 k (by omega)) am_fp0)))))
      refine (Eq.trans ?_ (cI_t (show (fun ρ => isSg tp ρ 38) ρ from hg2)).symm)
      rw [hg2.2.2]
    · refine aw_re (S' := [.int 0]) rfl ?_
      refine aw_if_eq (npc := 21) (tgt := 41) dX1_readAnd_18 rfl (by decide) (fun _ => ?_) (fun hc => absurd (by decide) hc)
      refine aw_vret rfl dX1_readAnd_41 ?_
      exact hq _ (rx_c (cI_f (show ¬ ((fun ρ => isSg tp ρ 38) ρ) from hg2)).symm H) am_fp0
set_option maxHeartbeats 4000000 in
set_option maxRecDepth 100000 in
theorem r_and {L : Nat} {tp : Nat → Int32} {D q : Nat} {P : RS → RS} (hG : CM L tp mX1_readTest [some (.ref 39), none] q D (tsF L tp P)) (hO : PO L tp D (tsF L tp P)) : CM L tp mX1_readAnd [some (.ref 39), none] (q + 5) D (fun ρ => lpF L tp (tsF L tp P) (fun ρ => isSg tp ρ 38) 96 (tsF L tp P ρ)) := by
  intro X d rc rs n Q h ρ H Wf hd hq
  refine aw_dd (d2 := d + q + 5) (by omega) ?_
  refine aw_aload_n (npc := 1) rfl dX1_readAnd_0 rfl ?_
  obtain ⟨r1u, cd1u, Rd1u, m1_1, m2_1, m3_1, m4_1, m5_1, m7_1, m8_1, m9_1, m10_1, mc_1⟩ := id H
  refine aw_callV (npc := 4) (N := mX1_readTest) (b := 39) (mc := 0) (ms := 0) (A := []) (S := []) (L0 := [some (.ref 39), none]) dX1_readAnd_1 rfl km_X1_readTest kk_X1_113 Rd1u.1 ⟨by decide, rfl⟩ rfl ⟨rfl, by decide⟩ rfl (Nat.le_of_ble_eq_true rfl) (Nat.zero_add _) (Nat.zero_add _) rfl ?_
  refine aw_dd (d2 := d + 4 + q) (by omega) ?_
  refine hG _ _ _ _ _ _ _ (ρ) H Wf hd (fun hp1 Hc2 fz3 => ?_)
  have Wc4 := hO (ρ) Wf hd
  have fyfz3 : ∀ k, (k < 39 ∨ 43 ≤ k) → hp1 k = _ := fun k hk => fz3 k hk
  have hd5 : 17 ≤ D + ((tsF L tp P) (ρ)).2.2.2.2.2.1 + ((tsF L tp P) (ρ)).2.2.2.2.2.2 := kp_d Wc4.2 hd
  refine aw_iconst (npc := 5) (v := 0) (by decide) dX1_readAnd_4 rfl ?_
  refine aw_istore_n (npc := 6) (L' := [some (.ref 39), some (.int 0)]) dX1_readAnd_5 rfl (by decide) rfl rfl ?_
  refine aw_locs (L' := [some (.ref 39), some (.int (nI 0))]) rfl ?_
  exact r_andL hG hO 96 0 (by omega) _ _ Hc2 Wc4.1 hd5 (fun h9 H9 f9 => hq h9 H9 (am_fpT f9 (am_fpT (fun k (hk : k < 39 ∨ 43 ≤ k) => fyfz3 k (by omega)) am_fp0)))
set_option maxHeartbeats 4000000 in
set_option maxRecDepth 100000 in
theorem r_orL {L : Nat} {tp : Nat → Int32} {D q : Nat} {P : RS → RS} (hG : CM L tp mX1_readAnd [some (.ref 39), none] q D (anF L tp P)) (hO : PO L tp D (anF L tp P)) {X : List Int32} {d rc rs n : Nat} {Q : am_Q} : ∀ (m i : Nat), i + m = 96 → ∀ (ρ : RS) (h : am_H), RX ρ L tp h → WR L tp ρ → 17 ≤ D + ρ.2.2.2.2.2.1 + ρ.2.2.2.2.2.2 → (∀ h9, RX (lpF L tp (anF L tp P) (fun ρ => isSg tp ρ 124) m ρ) L tp h9 → am_fp (fun k => k < 39 ∨ 43 ≤ k) h9 h → Q none n h9) → AW X mX1_readOr (d + q + 5) rc rs 6 [some (.ref 39), some (.int (nI i))] [] n h Q := by
  intro m
  induction m with
  | zero =>
    intro i hi ρ h H Wf hd hq
    obtain rfl : i = 96 := by omega
    refine aw_iload_n (npc := 7) rfl dX1_readOr_6 rfl ?_
    refine aw_bipush (npc := 9) (v := 96) (by decide) dX1_readOr_7 rfl ?_
    refine aw_icmp_ge (npc := 12) (tgt := 41) dX1_readOr_9 rfl (by decide) (fun _ => ?_) (fun hc => absurd (nI_le (a := 96) (b := 96) (by omega) (by omega)) hc)
    refine aw_vret rfl dX1_readOr_41 ?_
    exact hq _ H am_fp0
  | succ m ih =>
    intro i hi ρ h H Wf hd hq
    obtain ⟨wk, w96, wcl, wob, wog, wft⟩ := id Wf
    have we := wk.1
    have wf := wk.2.1
    refine aw_iload_n (npc := 7) rfl dX1_readOr_6 rfl ?_
    refine aw_bipush (npc := 9) (v := 96) (by decide) dX1_readOr_7 rfl ?_
    refine aw_icmp_ge (npc := 12) (tgt := 41) dX1_readOr_9 rfl (by decide) (fun hc => absurd hc (nI_ge (a := i) (b := 96) (by omega) (by omega))) (fun _ => ?_)
    refine aw_aload_n (npc := 13) rfl dX1_readOr_12 rfl ?_
    refine aw_bipush (npc := 15) (v := 124) (by decide) dX1_readOr_13 rfl ?_
    obtain ⟨r1u, cd1u, Rd1u, m1_1, m2_1, m3_1, m4_1, m5_1, m7_1, m8_1, m9_1, m10_1, mc_1⟩ := id H
    refine aw_callV (npc := 18) (N := mX1_isSign) (b := 39) (mc := 0) (ms := 0) (A := [.int 124]) (S := []) (L0 := [some (.ref 39), some (.int 124)]) dX1_readOr_15 rfl km_X1_isSign kk_X1_105 Rd1u.1 ⟨by decide, rfl⟩ rfl ⟨rfl, by decide⟩ rfl (Nat.le_of_ble_eq_true rfl) (Nat.zero_add _) (Nat.zero_add _) rfl ?_
    refine r_isSign (c := 124) H Wf (fun hg2 => ?_) (fun hg2 => ?_)
    · refine aw_re (S' := [.int 1]) rfl ?_
      refine aw_if_eq (npc := 21) (tgt := 41) dX1_readOr_18 rfl (by decide) (fun hc => absurd hc (by decide)) (fun _ => ?_)
      refine aw_aload_n (npc := 22) rfl dX1_readOr_21 rfl ?_
      refine aw_callV (npc := 25) (N := mX1_advance) (b := 39) (mc := 0) (ms := 0) (A := []) (S := []) (L0 := [some (.ref 39), none, none, none]) dX1_readOr_22 rfl km_X1_advance kk_X1_50 Rd1u.1 ⟨by decide, rfl⟩ rfl ⟨rfl, by decide⟩ rfl (Nat.le_of_ble_eq_true rfl) (Nat.zero_add _) (Nat.zero_add _) rfl ?_
      refine r_adv  H Wf (fun hp3 Hr4 fz5 => ?_)
      have fyfz5 : ∀ k, (k < 39 ∨ 43 ≤ k) → hp3 k = _ := fun k hk => fz5 k hk
      have Wf6 : WR L tp (avF L tp ρ) := wr_av Wf
      refine aw_aload_n (npc := 26) rfl dX1_readOr_25 rfl ?_
      obtain ⟨r2u, cd2u, Rd2u, m1_2, m2_2, m3_2, m4_2, m5_2, m7_2, m8_2, m9_2, m10_2, mc_2⟩ := id Hr4
      refine aw_callV (npc := 29) (N := mX1_readAnd) (b := 39) (mc := 0) (ms := 0) (A := []) (S := []) (L0 := [some (.ref 39), none]) dX1_readOr_26 rfl km_X1_readAnd kk_X1_102 Rd2u.1 ⟨by decide, rfl⟩ rfl ⟨rfl, by decide⟩ rfl (Nat.le_of_ble_eq_true rfl) (Nat.zero_add _) (Nat.zero_add _) rfl ?_
      refine aw_dd (d2 := d + 4 + q) (by omega) ?_
      refine hG _ _ _ _ _ _ _ (avF L tp ρ) Hr4 Wf6 hd (fun hp7 Hc8 fz9 => ?_)
      have Wc10 := hO (avF L tp ρ) Wf6 hd
      have fyfz9 : ∀ k, (k < 39 ∨ 43 ≤ k) → hp7 k = _ := fun k hk => fz9 k hk
      have hd11 : 17 ≤ D + ((anF L tp P) (avF L tp ρ)).2.2.2.2.2.1 + ((anF L tp P) (avF L tp ρ)).2.2.2.2.2.2 := kp_d Wc10.2 hd
      refine aw_aload_n (npc := 30) rfl dX1_readOr_29 rfl ?_
      refine aw_bipush (npc := 32) (v := -124) (by decide) dX1_readOr_30 rfl ?_
      obtain ⟨r3u, cd3u, Rd3u, m1_3, m2_3, m3_3, m4_3, m5_3, m7_3, m8_3, m9_3, m10_3, mc_3⟩ := id Hc8
      refine aw_callV (npc := 35) (N := mX1_emit) (b := 39) (mc := 0) (ms := 0) (A := [.int (-124)]) (S := []) (L0 := [some (.ref 39), some (.int (-124))]) dX1_readOr_32 rfl km_X1_emit kk_X1_109 Rd3u.1 ⟨by decide, rfl⟩ rfl ⟨rfl, by decide⟩ rfl (Nat.le_of_ble_eq_true rfl) (Nat.zero_add _) (Nat.zero_add _) rfl ?_
      refine r_emit (c := (-124)) Hc8 Wc10.1 (fun hp12 Hr13 fz14 => ?_)
      have fyfz14 : ∀ k, (k < 39 ∨ 43 ≤ k) → hp12 k = _ := fun k hk => fz14 k hk
      have Wf15 : WR L tp (emF (-124) ((anF L tp P) (avF L tp ρ))) := wr_em Wc10.1
      refine aw_iinc (npc := 38) (v := nI (i + 1)) (L' := [some (.ref 39), some (.int (nI (i + 1)))]) dX1_readOr_35 rfl rfl (nI_1 _) (by decide) rfl rfl ?_
      refine aw_goto (npc := 6) dX1_readOr_38 (by decide) ?_
      refine ih (i + 1) (by omega) _ _ Hr13 Wf15 hd11 (fun h9 H9 f9 => hq h9 (rx_c ?_ H9) (am_fpT f9 (am_fpT (fun k (hk : k < 39 ∨ 43 ≤ k) => fyfz14 k (by omega)) (am_fpT (fun k (hk : k < 39 ∨ 43 ≤ k) => fyfz9 k (by omega)) (am_fpT (fun k (hk : k < 39 ∨ 43 ≤ k) => fyfz5 k (by omega)) am_fp0)))))
      refine (Eq.trans ?_ (cI_t (show (fun ρ => isSg tp ρ 124) ρ from hg2)).symm)
      rw [hg2.2.2]
    · refine aw_re (S' := [.int 0]) rfl ?_
      refine aw_if_eq (npc := 21) (tgt := 41) dX1_readOr_18 rfl (by decide) (fun _ => ?_) (fun hc => absurd (by decide) hc)
      refine aw_vret rfl dX1_readOr_41 ?_
      exact hq _ (rx_c (cI_f (show ¬ ((fun ρ => isSg tp ρ 124) ρ) from hg2)).symm H) am_fp0
set_option maxHeartbeats 4000000 in
set_option maxRecDepth 100000 in
theorem r_or {L : Nat} {tp : Nat → Int32} {D q : Nat} {P : RS → RS} (hG : CM L tp mX1_readAnd [some (.ref 39), none] q D (anF L tp P)) (hO : PO L tp D (anF L tp P)) : CM L tp mX1_readOr [some (.ref 39), none] (q + 5) D (fun ρ => lpF L tp (anF L tp P) (fun ρ => isSg tp ρ 124) 96 (anF L tp P ρ)) := by
  intro X d rc rs n Q h ρ H Wf hd hq
  refine aw_dd (d2 := d + q + 5) (by omega) ?_
  refine aw_aload_n (npc := 1) rfl dX1_readOr_0 rfl ?_
  obtain ⟨r1u, cd1u, Rd1u, m1_1, m2_1, m3_1, m4_1, m5_1, m7_1, m8_1, m9_1, m10_1, mc_1⟩ := id H
  refine aw_callV (npc := 4) (N := mX1_readAnd) (b := 39) (mc := 0) (ms := 0) (A := []) (S := []) (L0 := [some (.ref 39), none]) dX1_readOr_1 rfl km_X1_readAnd kk_X1_102 Rd1u.1 ⟨by decide, rfl⟩ rfl ⟨rfl, by decide⟩ rfl (Nat.le_of_ble_eq_true rfl) (Nat.zero_add _) (Nat.zero_add _) rfl ?_
  refine aw_dd (d2 := d + 4 + q) (by omega) ?_
  refine hG _ _ _ _ _ _ _ (ρ) H Wf hd (fun hp1 Hc2 fz3 => ?_)
  have Wc4 := hO (ρ) Wf hd
  have fyfz3 : ∀ k, (k < 39 ∨ 43 ≤ k) → hp1 k = _ := fun k hk => fz3 k hk
  have hd5 : 17 ≤ D + ((anF L tp P) (ρ)).2.2.2.2.2.1 + ((anF L tp P) (ρ)).2.2.2.2.2.2 := kp_d Wc4.2 hd
  refine aw_iconst (npc := 5) (v := 0) (by decide) dX1_readOr_4 rfl ?_
  refine aw_istore_n (npc := 6) (L' := [some (.ref 39), some (.int 0)]) dX1_readOr_5 rfl (by decide) rfl rfl ?_
  refine aw_locs (L' := [some (.ref 39), some (.int (nI 0))]) rfl ?_
  exact r_orL hG hO 96 0 (by omega) _ _ Hc2 Wc4.1 hd5 (fun h9 H9 f9 => hq h9 H9 (am_fpT f9 (am_fpT (fun k (hk : k < 39 ∨ 43 ≤ k) => fyfz3 k (by omega)) am_fp0)))
set_option maxHeartbeats 4000000 in
set_option maxRecDepth 100000 in
theorem r_test {L : Nat} {tp : Nat → Int32} {D q : Nat} {P : RS → RS} (hG : CM L tp mX1_readSum [some (.ref 39), none, none] q D (smF L tp P)) (hO : PO L tp D (smF L tp P)) : CM L tp mX1_readTest [some (.ref 39), none] (q + 5) D (tsF L tp P) := by
  intro X d rc rs n Q h ρ H Wf hd hq
  obtain ⟨wk, w96, wcl, wob, wog, wft⟩ := id Wf
  refine aw_dd (d2 := d + q + 5) (by omega) ?_
  refine aw_aload_n (npc := 1) rfl dX1_readTest_0 rfl ?_
  obtain ⟨r1u, cd1u, Rd1u, m1_1, m2_1, m3_1, m4_1, m5_1, m7_1, m8_1, m9_1, m10_1, mc_1⟩ := id H
  refine aw_callV (npc := 4) (N := mX1_readSum) (b := 39) (mc := 0) (ms := 0) (A := []) (S := []) (L0 := [some (.ref 39), none, none]) dX1_readTest_1 rfl km_X1_readSum kk_X1_116 Rd1u.1 ⟨by decide, rfl⟩ rfl ⟨rfl, by decide⟩ rfl (Nat.le_of_ble_eq_true rfl) (Nat.zero_add _) (Nat.zero_add _) rfl ?_
  refine aw_dd (d2 := d + 4 + q) (by omega) ?_
  refine hG _ _ _ _ _ _ _ (ρ) H Wf hd (fun hp1 Hc2 fz3 => ?_)
  have Wc4 := hO (ρ) Wf hd
  have fyfz3 : ∀ k, (k < 39 ∨ 43 ≤ k) → hp1 k = _ := fun k hk => fz3 k hk
  have hd5 : 17 ≤ D + (smF L tp P (ρ)).2.2.2.2.2.1 + (smF L tp P (ρ)).2.2.2.2.2.2 := kp_d Wc4.2 hd
  refine aw_aload_n (npc := 5) rfl dX1_readTest_4 rfl ?_
  refine aw_bipush (npc := 7) (v := 60) (by decide) dX1_readTest_5 rfl ?_
  obtain ⟨r2u, cd2u, Rd2u, m1_2, m2_2, m3_2, m4_2, m5_2, m7_2, m8_2, m9_2, m10_2, mc_2⟩ := id Hc2
  refine aw_callV (npc := 10) (N := mX1_isSign) (b := 39) (mc := 0) (ms := 0) (A := [.int 60]) (S := []) (L0 := [some (.ref 39), some (.int 60)]) dX1_readTest_7 rfl km_X1_isSign kk_X1_105 Rd2u.1 ⟨by decide, rfl⟩ rfl ⟨rfl, by decide⟩ rfl (Nat.le_of_ble_eq_true rfl) (Nat.zero_add _) (Nat.zero_add _) rfl ?_
  refine r_isSign (c := 60) Hc2 Wc4.1 (fun hg6 => ?_) (fun hg6 => ?_)
  · refine aw_re (S' := [.int 1]) rfl ?_
    refine aw_if_ne (npc := 13) (tgt := 31) dX1_readTest_10 rfl (by decide) (fun _ => ?_) (fun hc => absurd hc (by decide))
    have wkT := Wc4.1.1
    have we2 := wkT.1
    have wf2 := wkT.2.1
    have wf3 : (smF L tp P ρ).1.2.1 < (smF L tp P ρ).1.2.2 := wkT.2.2.2.2.2.1 (by have z := hg6.2.1; omega)
    refine aw_aload_n (npc := 32) rfl dX1_readTest_31 rfl ?_
    refine aw_get (npc := 35) dX1_readTest_32 rfl kf_X1_12 Rd2u.1 rfl ?_
    refine aw_get (npc := 38) dX1_readTest_35 rfl kf_X1_76 Rd2u.2.1 rfl ?_
    refine aw_aload_n (npc := 39) rfl dX1_readTest_38 rfl ?_
    refine aw_get (npc := 42) dX1_readTest_39 rfl kf_X1_25 Rd2u.1 rfl ?_
    refine aw_top (y := nI (smF L tp P (ρ)).1.2.1) (m3_2) ?_
    refine aw_iald (npc := 43) (x := tp ((smF L tp P (ρ)).1.2.1)) (j := ((smF L tp P (ρ)).1.2.1)) dX1_readTest_42 rfl Rd2u.2.2.1 (am_ix_nI (by omega)) (tl_at (by omega)) ?_
    refine aw_istore_n (npc := 44) (L' := [some (.ref 39), some (.int (tp ((smF L tp P (ρ)).1.2.1)))]) dX1_readTest_43 rfl (by decide) rfl rfl ?_
    refine aw_aload_n (npc := 45) rfl dX1_readTest_44 rfl ?_
    refine aw_callV (npc := 48) (N := mX1_advance) (b := 39) (mc := 0) (ms := 0) (A := []) (S := []) (L0 := [some (.ref 39), none, none, none]) dX1_readTest_45 rfl km_X1_advance kk_X1_50 Rd2u.1 ⟨by decide, rfl⟩ rfl ⟨rfl, by decide⟩ rfl (Nat.le_of_ble_eq_true rfl) (Nat.zero_add _) (Nat.zero_add _) rfl ?_
    refine r_adv  Hc2 Wc4.1 (fun hp7 Hr8 fz9 => ?_)
    have fyfz9 : ∀ k, (k < 39 ∨ 43 ≤ k) → hp7 k = _ := fun k hk => fz9 k hk
    have Wf10 : WR L tp (avF L tp (smF L tp P (ρ))) := wr_av Wc4.1
    refine aw_aload_n (npc := 49) rfl dX1_readTest_48 rfl ?_
    obtain ⟨r3u, cd3u, Rd3u, m1_3, m2_3, m3_3, m4_3, m5_3, m7_3, m8_3, m9_3, m10_3, mc_3⟩ := id Hr8
    refine aw_callV (npc := 52) (N := mX1_readSum) (b := 39) (mc := 0) (ms := 0) (A := []) (S := []) (L0 := [some (.ref 39), none, none]) dX1_readTest_49 rfl km_X1_readSum kk_X1_116 Rd3u.1 ⟨by decide, rfl⟩ rfl ⟨rfl, by decide⟩ rfl (Nat.le_of_ble_eq_true rfl) (Nat.zero_add _) (Nat.zero_add _) rfl ?_
    refine aw_dd (d2 := d + 4 + q) (by omega) ?_
    refine hG _ _ _ _ _ _ _ (avF L tp (smF L tp P (ρ))) Hr8 Wf10 hd5 (fun hp11 Hc12 fz13 => ?_)
    have Wc14 := hO (avF L tp (smF L tp P (ρ))) Wf10 hd5
    have fyfz13 : ∀ k, (k < 39 ∨ 43 ≤ k) → hp11 k = _ := fun k hk => fz13 k hk
    have hd15 : 17 ≤ D + (smF L tp P (avF L tp (smF L tp P (ρ)))).2.2.2.2.2.1 + (smF L tp P (avF L tp (smF L tp P (ρ)))).2.2.2.2.2.2 := kp_d Wc14.2 hd5
    refine aw_aload_n (npc := 53) rfl dX1_readTest_52 rfl ?_
    refine aw_iload_n (npc := 54) rfl dX1_readTest_53 rfl ?_
    refine aw_ineg (npc := 55) dX1_readTest_54 rfl ?_
    obtain ⟨r4u, cd4u, Rd4u, m1_4, m2_4, m3_4, m4_4, m5_4, m7_4, m8_4, m9_4, m10_4, mc_4⟩ := id Hc12
    refine aw_callV (npc := 58) (N := mX1_emit) (b := 39) (mc := 0) (ms := 0) (A := [.int (-(tp ((smF L tp P (ρ)).1.2.1)))]) (S := []) (L0 := [some (.ref 39), some (.int (-(tp ((smF L tp P (ρ)).1.2.1))))]) dX1_readTest_55 rfl km_X1_emit kk_X1_109 Rd4u.1 ⟨by decide, rfl⟩ rfl ⟨rfl, by decide⟩ rfl (Nat.le_of_ble_eq_true rfl) (Nat.zero_add _) (Nat.zero_add _) rfl ?_
    refine r_emit (c := (-(tp ((smF L tp P (ρ)).1.2.1)))) Hc12 Wc14.1 (fun hp16 Hr17 fz18 => ?_)
    have fyfz18 : ∀ k, (k < 39 ∨ 43 ≤ k) → hp16 k = _ := fun k hk => fz18 k hk
    have Wf19 : WR L tp (emF (-(tp ((smF L tp P (ρ)).1.2.1))) (smF L tp P (avF L tp (smF L tp P (ρ))))) := wr_em Wc14.1
    refine aw_vret rfl dX1_readTest_58 ?_
    exact hq _ (rx_c (cI_t (show sgT tp (smF L tp P ρ) from Or.inl hg6)).symm Hr17) (am_fpT (fun k (hk : k < 39 ∨ 43 ≤ k) => fyfz18 k (by omega)) (am_fpT (fun k (hk : k < 39 ∨ 43 ≤ k) => fyfz13 k (by omega)) (am_fpT (fun k (hk : k < 39 ∨ 43 ≤ k) => fyfz9 k (by omega)) (am_fpT (fun k (hk : k < 39 ∨ 43 ≤ k) => fyfz3 k (by omega)) am_fp0))))
  · refine aw_re (S' := [.int 0]) rfl ?_
    refine aw_if_ne (npc := 13) (tgt := 31) dX1_readTest_10 rfl (by decide) (fun hc => absurd (by decide) hc) (fun _ => ?_)
    refine aw_aload_n (npc := 14) rfl dX1_readTest_13 rfl ?_
    refine aw_bipush (npc := 16) (v := 61) (by decide) dX1_readTest_14 rfl ?_
    refine aw_callV (npc := 19) (N := mX1_isSign) (b := 39) (mc := 0) (ms := 0) (A := [.int 61]) (S := []) (L0 := [some (.ref 39), some (.int 61)]) dX1_readTest_16 rfl km_X1_isSign kk_X1_105 Rd2u.1 ⟨by decide, rfl⟩ rfl ⟨rfl, by decide⟩ rfl (Nat.le_of_ble_eq_true rfl) (Nat.zero_add _) (Nat.zero_add _) rfl ?_
    refine r_isSign (c := 61) Hc2 Wc4.1 (fun hg20 => ?_) (fun hg20 => ?_)
    · refine aw_re (S' := [.int 1]) rfl ?_
      refine aw_if_ne (npc := 22) (tgt := 31) dX1_readTest_19 rfl (by decide) (fun _ => ?_) (fun hc => absurd hc (by decide))
      have wkT := Wc4.1.1
      have we2 := wkT.1
      have wf2 := wkT.2.1
      have wf3 : (smF L tp P ρ).1.2.1 < (smF L tp P ρ).1.2.2 := wkT.2.2.2.2.2.1 (by have z := hg20.2.1; omega)
      refine aw_aload_n (npc := 32) rfl dX1_readTest_31 rfl ?_
      refine aw_get (npc := 35) dX1_readTest_32 rfl kf_X1_12 Rd2u.1 rfl ?_
      refine aw_get (npc := 38) dX1_readTest_35 rfl kf_X1_76 Rd2u.2.1 rfl ?_
      refine aw_aload_n (npc := 39) rfl dX1_readTest_38 rfl ?_
      refine aw_get (npc := 42) dX1_readTest_39 rfl kf_X1_25 Rd2u.1 rfl ?_
      refine aw_top (y := nI (smF L tp P (ρ)).1.2.1) (m3_2) ?_
      refine aw_iald (npc := 43) (x := tp ((smF L tp P (ρ)).1.2.1)) (j := ((smF L tp P (ρ)).1.2.1)) dX1_readTest_42 rfl Rd2u.2.2.1 (am_ix_nI (by omega)) (tl_at (by omega)) ?_
      refine aw_istore_n (npc := 44) (L' := [some (.ref 39), some (.int (tp ((smF L tp P (ρ)).1.2.1)))]) dX1_readTest_43 rfl (by decide) rfl rfl ?_
      refine aw_aload_n (npc := 45) rfl dX1_readTest_44 rfl ?_
      refine aw_callV (npc := 48) (N := mX1_advance) (b := 39) (mc := 0) (ms := 0) (A := []) (S := []) (L0 := [some (.ref 39), none, none, none]) dX1_readTest_45 rfl km_X1_advance kk_X1_50 Rd2u.1 ⟨by decide, rfl⟩ rfl ⟨rfl, by decide⟩ rfl (Nat.le_of_ble_eq_true rfl) (Nat.zero_add _) (Nat.zero_add _) rfl ?_
      refine r_adv  Hc2 Wc4.1 (fun hp21 Hr22 fz23 => ?_)
      have fyfz23 : ∀ k, (k < 39 ∨ 43 ≤ k) → hp21 k = _ := fun k hk => fz23 k hk
      have Wf24 : WR L tp (avF L tp (smF L tp P (ρ))) := wr_av Wc4.1
      refine aw_aload_n (npc := 49) rfl dX1_readTest_48 rfl ?_
      obtain ⟨r5u, cd5u, Rd5u, m1_5, m2_5, m3_5, m4_5, m5_5, m7_5, m8_5, m9_5, m10_5, mc_5⟩ := id Hr22
      refine aw_callV (npc := 52) (N := mX1_readSum) (b := 39) (mc := 0) (ms := 0) (A := []) (S := []) (L0 := [some (.ref 39), none, none]) dX1_readTest_49 rfl km_X1_readSum kk_X1_116 Rd5u.1 ⟨by decide, rfl⟩ rfl ⟨rfl, by decide⟩ rfl (Nat.le_of_ble_eq_true rfl) (Nat.zero_add _) (Nat.zero_add _) rfl ?_
      refine aw_dd (d2 := d + 4 + q) (by omega) ?_
      refine hG _ _ _ _ _ _ _ (avF L tp (smF L tp P (ρ))) Hr22 Wf24 hd5 (fun hp25 Hc26 fz27 => ?_)
      have Wc28 := hO (avF L tp (smF L tp P (ρ))) Wf24 hd5
      have fyfz27 : ∀ k, (k < 39 ∨ 43 ≤ k) → hp25 k = _ := fun k hk => fz27 k hk
      have hd29 : 17 ≤ D + (smF L tp P (avF L tp (smF L tp P (ρ)))).2.2.2.2.2.1 + (smF L tp P (avF L tp (smF L tp P (ρ)))).2.2.2.2.2.2 := kp_d Wc28.2 hd5
      refine aw_aload_n (npc := 53) rfl dX1_readTest_52 rfl ?_
      refine aw_iload_n (npc := 54) rfl dX1_readTest_53 rfl ?_
      refine aw_ineg (npc := 55) dX1_readTest_54 rfl ?_
      obtain ⟨r6u, cd6u, Rd6u, m1_6, m2_6, m3_6, m4_6, m5_6, m7_6, m8_6, m9_6, m10_6, mc_6⟩ := id Hc26
      refine aw_callV (npc := 58) (N := mX1_emit) (b := 39) (mc := 0) (ms := 0) (A := [.int (-(tp ((smF L tp P (ρ)).1.2.1)))]) (S := []) (L0 := [some (.ref 39), some (.int (-(tp ((smF L tp P (ρ)).1.2.1))))]) dX1_readTest_55 rfl km_X1_emit kk_X1_109 Rd6u.1 ⟨by decide, rfl⟩ rfl ⟨rfl, by decide⟩ rfl (Nat.le_of_ble_eq_true rfl) (Nat.zero_add _) (Nat.zero_add _) rfl ?_
      refine r_emit (c := (-(tp ((smF L tp P (ρ)).1.2.1)))) Hc26 Wc28.1 (fun hp30 Hr31 fz32 => ?_)
      have fyfz32 : ∀ k, (k < 39 ∨ 43 ≤ k) → hp30 k = _ := fun k hk => fz32 k hk
      have Wf33 : WR L tp (emF (-(tp ((smF L tp P (ρ)).1.2.1))) (smF L tp P (avF L tp (smF L tp P (ρ))))) := wr_em Wc28.1
      refine aw_vret rfl dX1_readTest_58 ?_
      exact hq _ (rx_c (cI_t (show sgT tp (smF L tp P ρ) from Or.inr (Or.inl hg20))).symm Hr31) (am_fpT (fun k (hk : k < 39 ∨ 43 ≤ k) => fyfz32 k (by omega)) (am_fpT (fun k (hk : k < 39 ∨ 43 ≤ k) => fyfz27 k (by omega)) (am_fpT (fun k (hk : k < 39 ∨ 43 ≤ k) => fyfz23 k (by omega)) (am_fpT (fun k (hk : k < 39 ∨ 43 ≤ k) => fyfz3 k (by omega)) am_fp0))))
    · refine aw_re (S' := [.int 0]) rfl ?_
      refine aw_if_ne (npc := 22) (tgt := 31) dX1_readTest_19 rfl (by decide) (fun hc => absurd (by decide) hc) (fun _ => ?_)
      refine aw_aload_n (npc := 23) rfl dX1_readTest_22 rfl ?_
      refine aw_bipush (npc := 25) (v := 62) (by decide) dX1_readTest_23 rfl ?_
      refine aw_callV (npc := 28) (N := mX1_isSign) (b := 39) (mc := 0) (ms := 0) (A := [.int 62]) (S := []) (L0 := [some (.ref 39), some (.int 62)]) dX1_readTest_25 rfl km_X1_isSign kk_X1_105 Rd2u.1 ⟨by decide, rfl⟩ rfl ⟨rfl, by decide⟩ rfl (Nat.le_of_ble_eq_true rfl) (Nat.zero_add _) (Nat.zero_add _) rfl ?_
      refine r_isSign (c := 62) Hc2 Wc4.1 (fun hg34 => ?_) (fun hg34 => ?_)
      · refine aw_re (S' := [.int 1]) rfl ?_
        refine aw_if_eq (npc := 31) (tgt := 58) dX1_readTest_28 rfl (by decide) (fun hc => absurd hc (by decide)) (fun _ => ?_)
        have wkT := Wc4.1.1
        have we2 := wkT.1
        have wf2 := wkT.2.1
        have wf3 : (smF L tp P ρ).1.2.1 < (smF L tp P ρ).1.2.2 := wkT.2.2.2.2.2.1 (by have z := hg34.2.1; omega)
        refine aw_aload_n (npc := 32) rfl dX1_readTest_31 rfl ?_
        refine aw_get (npc := 35) dX1_readTest_32 rfl kf_X1_12 Rd2u.1 rfl ?_
        refine aw_get (npc := 38) dX1_readTest_35 rfl kf_X1_76 Rd2u.2.1 rfl ?_
        refine aw_aload_n (npc := 39) rfl dX1_readTest_38 rfl ?_
        refine aw_get (npc := 42) dX1_readTest_39 rfl kf_X1_25 Rd2u.1 rfl ?_
        refine aw_top (y := nI (smF L tp P (ρ)).1.2.1) (m3_2) ?_
        refine aw_iald (npc := 43) (x := tp ((smF L tp P (ρ)).1.2.1)) (j := ((smF L tp P (ρ)).1.2.1)) dX1_readTest_42 rfl Rd2u.2.2.1 (am_ix_nI (by omega)) (tl_at (by omega)) ?_
        refine aw_istore_n (npc := 44) (L' := [some (.ref 39), some (.int (tp ((smF L tp P (ρ)).1.2.1)))]) dX1_readTest_43 rfl (by decide) rfl rfl ?_
        refine aw_aload_n (npc := 45) rfl dX1_readTest_44 rfl ?_
        refine aw_callV (npc := 48) (N := mX1_advance) (b := 39) (mc := 0) (ms := 0) (A := []) (S := []) (L0 := [some (.ref 39), none, none, none]) dX1_readTest_45 rfl km_X1_advance kk_X1_50 Rd2u.1 ⟨by decide, rfl⟩ rfl ⟨rfl, by decide⟩ rfl (Nat.le_of_ble_eq_true rfl) (Nat.zero_add _) (Nat.zero_add _) rfl ?_
        refine r_adv  Hc2 Wc4.1 (fun hp35 Hr36 fz37 => ?_)
        have fyfz37 : ∀ k, (k < 39 ∨ 43 ≤ k) → hp35 k = _ := fun k hk => fz37 k hk
        have Wf38 : WR L tp (avF L tp (smF L tp P (ρ))) := wr_av Wc4.1
        refine aw_aload_n (npc := 49) rfl dX1_readTest_48 rfl ?_
        obtain ⟨r7u, cd7u, Rd7u, m1_7, m2_7, m3_7, m4_7, m5_7, m7_7, m8_7, m9_7, m10_7, mc_7⟩ := id Hr36
        refine aw_callV (npc := 52) (N := mX1_readSum) (b := 39) (mc := 0) (ms := 0) (A := []) (S := []) (L0 := [some (.ref 39), none, none]) dX1_readTest_49 rfl km_X1_readSum kk_X1_116 Rd7u.1 ⟨by decide, rfl⟩ rfl ⟨rfl, by decide⟩ rfl (Nat.le_of_ble_eq_true rfl) (Nat.zero_add _) (Nat.zero_add _) rfl ?_
        refine aw_dd (d2 := d + 4 + q) (by omega) ?_
        refine hG _ _ _ _ _ _ _ (avF L tp (smF L tp P (ρ))) Hr36 Wf38 hd5 (fun hp39 Hc40 fz41 => ?_)
        have Wc42 := hO (avF L tp (smF L tp P (ρ))) Wf38 hd5
        have fyfz41 : ∀ k, (k < 39 ∨ 43 ≤ k) → hp39 k = _ := fun k hk => fz41 k hk
        have hd43 : 17 ≤ D + (smF L tp P (avF L tp (smF L tp P (ρ)))).2.2.2.2.2.1 + (smF L tp P (avF L tp (smF L tp P (ρ)))).2.2.2.2.2.2 := kp_d Wc42.2 hd5
        refine aw_aload_n (npc := 53) rfl dX1_readTest_52 rfl ?_
        refine aw_iload_n (npc := 54) rfl dX1_readTest_53 rfl ?_
        refine aw_ineg (npc := 55) dX1_readTest_54 rfl ?_
        obtain ⟨r8u, cd8u, Rd8u, m1_8, m2_8, m3_8, m4_8, m5_8, m7_8, m8_8, m9_8, m10_8, mc_8⟩ := id Hc40
        refine aw_callV (npc := 58) (N := mX1_emit) (b := 39) (mc := 0) (ms := 0) (A := [.int (-(tp ((smF L tp P (ρ)).1.2.1)))]) (S := []) (L0 := [some (.ref 39), some (.int (-(tp ((smF L tp P (ρ)).1.2.1))))]) dX1_readTest_55 rfl km_X1_emit kk_X1_109 Rd8u.1 ⟨by decide, rfl⟩ rfl ⟨rfl, by decide⟩ rfl (Nat.le_of_ble_eq_true rfl) (Nat.zero_add _) (Nat.zero_add _) rfl ?_
        refine r_emit (c := (-(tp ((smF L tp P (ρ)).1.2.1)))) Hc40 Wc42.1 (fun hp44 Hr45 fz46 => ?_)
        have fyfz46 : ∀ k, (k < 39 ∨ 43 ≤ k) → hp44 k = _ := fun k hk => fz46 k hk
        have Wf47 : WR L tp (emF (-(tp ((smF L tp P (ρ)).1.2.1))) (smF L tp P (avF L tp (smF L tp P (ρ))))) := wr_em Wc42.1
        refine aw_vret rfl dX1_readTest_58 ?_
        exact hq _ (rx_c (cI_t (show sgT tp (smF L tp P ρ) from Or.inr (Or.inr hg34))).symm Hr45) (am_fpT (fun k (hk : k < 39 ∨ 43 ≤ k) => fyfz46 k (by omega)) (am_fpT (fun k (hk : k < 39 ∨ 43 ≤ k) => fyfz41 k (by omega)) (am_fpT (fun k (hk : k < 39 ∨ 43 ≤ k) => fyfz37 k (by omega)) (am_fpT (fun k (hk : k < 39 ∨ 43 ≤ k) => fyfz3 k (by omega)) am_fp0))))
      · refine aw_re (S' := [.int 0]) rfl ?_
        refine aw_if_eq (npc := 31) (tgt := 58) dX1_readTest_28 rfl (by decide) (fun _ => ?_) (fun hc => absurd (by decide) hc)
        refine aw_vret rfl dX1_readTest_58 ?_
        exact hq _ (rx_c (cI_f (show ¬ sgT tp (smF L tp P ρ) from fun z => z.elim hg6 (fun y => y.elim hg20 hg34))).symm Hc2) (am_fpT (fun k (hk : k < 39 ∨ 43 ≤ k) => fyfz3 k (by omega)) am_fp0)
