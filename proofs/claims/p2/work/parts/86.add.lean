theorem ff_wr {L : Nat} {tp : Nat → Int32} {k : Int32} (hL : L ≤ 96) : WR L tp (ffF L tp k) := by
  have z := (or_ok (pc_ok (L := L) (tp := tp) 17) (rkF L tp (avF L tp (ρI k))) (wr_rk (wr_I hL)) (by omega)).1
  exact wr_c (fun _ => z) (fun _ => wr_fl z)
theorem qr_cnt {b : Nat} {N : Nat → Int32} {tx : List Value} {lk mv : Nat → Int32} {h : am_H} {v : Int32} (F : QR b N tx lk mv h) : QR b (upd N 7 v) tx lk mv (am_up h b (.inr (0, (QO b N).set 16 (.int v)))) := by
  obtain ⟨f0, f1, f2, f3, f4, f5, f6, f7, f8, f9, f10, f11⟩ := F
  exact ⟨(am_eq.trans (by simp only [QO, List.set]; rw [pk_us (f := N) (k := 7), pk_un (f := N) (k := 7) (j := 3) (by omega), pk_un (f := N) (k := 7) (j := 4) (by omega), pk_un (f := N) (k := 7) (j := 5) (by omega), pk_un (f := N) (k := 7) (j := 6) (by omega), pk_un (f := N) (k := 7) (j := 2) (by omega), pk_un (f := N) (k := 7) (j := 0) (by omega), pk_un (f := N) (k := 7) (j := 1) (by omega)])), (am_ne (by omega) (f1.trans (congrArg (fun l : List Int32 => (some (.inl (0, l)) : Option am_AC)) (tl_keep (fun i hi => by omega))))), (am_ne (by omega) (f2.trans (congrArg (fun l : List Int32 => (some (.inl (0, l)) : Option am_AC)) (tl_keep (fun i hi => by omega))))), (am_ne (by omega) (f3.trans (congrArg (fun l : List Int32 => (some (.inl (0, l)) : Option am_AC)) (tl_keep (fun i hi => by omega))))), (am_ne (by omega) (f4.trans (congrArg (fun l : List Int32 => (some (.inl (0, l)) : Option am_AC)) (tl_keep (fun i hi => by omega))))), (am_ne (by omega) (f5.trans (congrArg (fun l : List Int32 => (some (.inl (0, l)) : Option am_AC)) (tl_keep (fun i hi => by omega))))), (am_ne (by omega) (f6.trans (congrArg (fun l : List Int32 => (some (.inl (0, l)) : Option am_AC)) (tl_keep (fun i hi => by omega))))), (am_ne (by omega) (f7.trans (congrArg (fun l : List Int32 => (some (.inl (0, l)) : Option am_AC)) (tl_keep (fun i hi => by omega))))), (am_ne (by omega) (f8.trans (congrArg (fun l : List Int32 => (some (.inl (0, l)) : Option am_AC)) (tl_keep (fun i hi => by omega))))), (am_ne (by omega) f9), (am_ne (by omega) f10), (am_ne (by omega) f11)⟩
theorem qr_tx {b j : Nat} {N : Nat → Int32} {tx : List Value} {lk mv : Nat → Int32} {h : am_H} {v : Value} (F : QR b N tx lk mv h) : QR b N (tx.set j v) lk mv (am_up h (b + 9) (.inr (15, tx.set j v))) := by
  obtain ⟨f0, f1, f2, f3, f4, f5, f6, f7, f8, f9, f10, f11⟩ := F
  exact ⟨am_ne (by omega) f0, am_ne (by omega) f1, am_ne (by omega) f2, am_ne (by omega) f3, am_ne (by omega) f4, am_ne (by omega) f5, am_ne (by omega) f6, am_ne (by omega) f7, am_ne (by omega) f8, am_eq, am_ne (by omega) f10, am_ne (by omega) f11⟩
theorem qr_lk {b j : Nat} {N : Nat → Int32} {tx : List Value} {lk mv : Nat → Int32} {h : am_H} {v : Int32} (F : QR b N tx lk mv h) : QR b N tx (upd lk j v) mv (am_up h (b + 10) (.inl (0, (tl 3 lk).set j v))) := by
  obtain ⟨f0, f1, f2, f3, f4, f5, f6, f7, f8, f9, f10, f11⟩ := F
  exact ⟨am_ne (by omega) f0, am_ne (by omega) f1, am_ne (by omega) f2, am_ne (by omega) f3, am_ne (by omega) f4, am_ne (by omega) f5, am_ne (by omega) f6, am_ne (by omega) f7, am_ne (by omega) f8, am_ne (by omega) f9, am_eq.trans (congrArg (fun l : List Int32 => (some (.inl (0, l)) : Option am_AC)) tl_set), am_ne (by omega) f11⟩
theorem r_addText {X : List Int32} {d rc rs n : Nat} {Q : am_Q} {h : am_H} {N : Nat → Int32} {tx : List Value} {lk mv : Nat → Int32} {a c ky : Nat} {fs : List Value} (F : QR 1 N tx lk mv h) (hc : N 7 = nI c) (hc14 : c < 14) (hky : ky < 3) (htx : tx.length = 14) (ha : 13 ≤ a) (hT : h a = some (.inr (5, .int (nI ky) :: fs))) (hq : ∀ h9, QR 1 (upd N 7 (nI (c + 1))) (tx.set c (.ref a)) (upd lk ky (nI c)) mv h9 → (∀ k, (k < 1 ∨ 13 ≤ k) → h9 k = h k) → Q none n h9) : AW X mX0_addText (d + 1) rc rs 0 [some (.ref 1), some (.ref a)] [] n h Q := by
  have hw : wi (nI ky) 0 2 := ⟨nI_pos (by omega), fun z => absurd ((nI_ltI (a := 2) (b := ky) (by omega) (by omega)).mp z) (by omega)⟩
  refine aw_aload_n (npc := 1) rfl dX0_addText_0 rfl ?_
  refine aw_ifnull (npc := 4) dX0_addText_1 rfl ?_
  refine aw_aload_n (npc := 5) rfl dX0_addText_4 rfl ?_
  refine aw_get (npc := 8) dX0_addText_5 rfl kf_X0_64 F.1 rfl ?_
  refine aw_top (y := nI c) hc ?_
  refine aw_bipush (npc := 10) (v := 14) (by decide) dX0_addText_8 rfl ?_
  refine aw_icmp_ge (npc := 13) (tgt := 25) dX0_addText_10 rfl (by decide) (fun z => absurd ((nI_leI (a := 14) (b := c) (by omega) (by omega)).mp z) (by omega)) (fun _ => ?_)
  refine aw_aload_n (npc := 14) rfl dX0_addText_13 rfl ?_
  refine aw_get (npc := 17) dX0_addText_14 rfl kf_X0_83 hT rfl ?_
  refine aw_iconst (npc := 18) (v := 0) (by decide) dX0_addText_17 rfl ?_
  refine aw_iconst (npc := 19) (v := 2) (by decide) dX0_addText_18 rfl ?_
  refine aw_callSN (npc := 22) (N := mX7_within) (mc := 0) (ms := 0) (A := [.int (nI ky), .int 0, .int 2]) (S := []) (L0 := [some (.int (nI ky)), some (.int 0), some (.int 2)]) dX0_addText_19 rfl km_X7_within kk_X0_79 rfl ⟨rfl, by decide⟩ rfl (Nat.le_of_ble_eq_true rfl) (Nat.zero_add _) (Nat.zero_add _) rfl ?_
  refine c_X7_within (fun _ => ?_) (fun z => absurd hw z)
  refine aw_re (S' := [.int 1]) rfl ?_
  refine aw_if_ne (npc := 25) (tgt := 26) dX0_addText_22 rfl (by decide) (fun _ => ?_) (fun z => absurd z (by decide))
  refine aw_aload_n (npc := 27) rfl dX0_addText_26 rfl ?_
  refine aw_get (npc := 30) dX0_addText_27 rfl kf_X0_60 F.1 rfl ?_
  refine aw_aload_n (npc := 31) rfl dX0_addText_30 rfl ?_
  refine aw_get (npc := 34) dX0_addText_31 rfl kf_X0_64 F.1 rfl ?_
  refine aw_top (y := nI c) hc ?_
  refine aw_aload_n (npc := 35) rfl dX0_addText_34 rfl ?_
  refine aw_aastO (npc := 36) (j := c) dX0_addText_35 rfl F.2.2.2.2.2.2.2.2.2.1 (Or.inr ⟨a, _, rfl, hT⟩) (am_ix_nI (by omega)) (by omega) rfl ?_
  have F1 := qr_tx (j := c) (v := .ref a) F
  refine aw_aload_n (npc := 37) rfl dX0_addText_36 rfl ?_
  refine aw_get (npc := 40) dX0_addText_37 rfl kf_X0_67 F1.1 rfl ?_
  refine aw_aload_n (npc := 41) rfl dX0_addText_40 rfl ?_
  refine aw_get (npc := 44) dX0_addText_41 rfl kf_X0_83 (am_ne (by omega) hT) rfl ?_
  refine aw_aload_n (npc := 45) rfl dX0_addText_44 rfl ?_
  refine aw_get (npc := 48) dX0_addText_45 rfl kf_X0_64 F1.1 rfl ?_
  refine aw_top (y := nI c) hc ?_
  refine aw_iast (npc := 49) (j := ky) dX0_addText_48 rfl F1.2.2.2.2.2.2.2.2.2.2.1 (am_ix_nI (by omega)) (by rw [tl_len]; omega) rfl ?_
  have F2 := qr_lk (j := ky) (v := nI c) F1
  refine aw_aload_n (npc := 50) rfl dX0_addText_49 rfl ?_
  refine aw_dup (npc := 51) rfl dX0_addText_50 rfl ?_
  refine aw_get (npc := 54) dX0_addText_51 rfl kf_X0_64 F2.1 rfl ?_
  refine aw_top (y := nI c) hc ?_
  refine aw_iconst (npc := 55) (v := 1) (by decide) dX0_addText_54 rfl ?_
  refine aw_iadd (npc := 56) dX0_addText_55 rfl ?_
  refine aw_top (y := nI (c + 1)) (nI_add _ 1) ?_
  refine aw_put (npc := 59) dX0_addText_56 rfl kf_X0_64 F2.1 (Nat.le_of_ble_eq_true rfl) (am_ok_int _) rfl ?_
  refine aw_vret rfl dX0_addText_59 ?_
  exact hq _ (qr_cnt F2) (fun k hk => (am_nE (by omega)).trans ((am_nE (by omega)).trans (am_nE (by omega))))
theorem t_text {X : List Int32} {d rc rs n : Nat} {Q : am_Q} {h : am_H} {ik wc : Int32} {L c : Nat} {r tp cd N lk mv : Nat → Int32} {tx : List Value} (O : OB ik wc h) (Rd : RD r (nI L) tp cd h) (hL : L ≤ 96) (F : QR 1 N tx lk mv h) (hc : N 7 = nI c) (hc14 : c ≤ 14) (htx : tx.length = 14) (hn0 : 92 ≤ n) (hn : n + 2 < 1000000)
    (hok : (ffF L tp (r 5)).2.1 = none → (ffF L tp (r 5)).2.2.2.1.length < 96 ∧ (ffF L tp (r 5)).2.2.2.2.1 ≤ 96 ∧ ∃ ky, ky < 3 ∧ (ffF L tp (r 5)).2.2.1 = nI ky)
    (kA : ∀ q, (ffF L tp (r 5)).2.1 = some q → q ≤ 96 → ∀ h9 r9 cd9, RD r9 0 tp cd9 h9 → (∀ k, (k < 39 ∨ 43 ≤ k) → h9 k = h k) → Q (some (.int (-100 - nI q))) n h9)
    (kB : (ffF L tp (r 5)).2.1 = none → c = 14 → ∀ h9 r9 cd9, RD r9 0 tp cd9 h9 → (∀ k, (k < 39 ∨ 43 ≤ k) → h9 k = h k) → Q (some (.int (-1000000003))) n h9)
    (kC : (ffF L tp (r 5)).2.1 = none → c < 14 → ∀ ky h9 r9 cd9, ky < 3 → (ffF L tp (r 5)).2.2.1 = nI ky → RD r9 0 tp cd9 h9 → QR 1 (upd N 7 (nI (c + 1))) (tx.set c (.ref n)) (upd lk ky (nI c)) mv h9 → h9 n = some (.inr (5, [.int (nI ky), .int (nI (ffF L tp (r 5)).2.2.2.2.1), .ref (n + 1), .ref (n + 2)])) → h9 (n + 1) = some (.inl (0, tl (ffF L tp (r 5)).2.2.2.1.length cd9)) → (∀ j, j < (ffF L tp (r 5)).2.2.2.1.length → cd9 j = (ffF L tp (r 5)).2.2.2.1.getD j 0) → h9 (n + 2) = some (.inl (0, tl (mx1 (ffF L tp (r 5)).2.2.2.2.1) (fun _ => 0))) → (∀ k, k < n → (k < 1 ∨ 13 ≤ k) → (k < 39 ∨ 43 ≤ k) → h9 k = h k) → Q (some (.int (nI c))) (n + 3) h9) : AW X mX7_text (d + 711) (rc + 3) (rs + 200) 0 [some (.ref 0), none] [] n h Q := by
  have hcn : c < 2 ^ 31 := by omega
  refine aw_aload_n (npc := 1) rfl dX7_text_0 rfl ?_
  refine aw_get (npc := 4) dX7_text_1 rfl kf_X7_36 O.1 rfl ?_
  refine aw_callV (npc := 7) (N := mX1_findFault) (b := 39) (mc := 0) (ms := 0) (A := []) (S := []) (L0 := [some (.ref 39)]) dX7_text_4 rfl km_X1_findFault kk_X7_243 Rd.1 ⟨by decide, rfl⟩ rfl ⟨rfl, by decide⟩ rfl (Nat.le_of_ble_eq_true rfl) (Nat.zero_add _) (Nat.zero_add _) rfl ?_
  refine r_find hL Rd (fun h1 H1 f1 => ?_)
  obtain ⟨r1, cd1, R1, m1, m2, m3, m4, m5, m7, m8, m9, m10, mc⟩ := H1
  refine aw_re (S' := [.int (fI (ffF L tp (r 5)).2.1)]) rfl ?_
  refine aw_istore_n (npc := 8) (L' := [some (.ref 0), some (.int (fI (ffF L tp (r 5)).2.1))]) dX7_text_7 rfl (by decide) rfl rfl ?_
  refine aw_aload_n (npc := 9) rfl dX7_text_8 rfl ?_
  have O1 := ob_frame O (f1 0 (by omega)) (f1 43 (by omega)) (f1 44 (by omega))
  refine aw_get (npc := 12) dX7_text_9 rfl kf_X7_44 O1.1 rfl ?_
  refine aw_iconst (npc := 13) (v := 0) (by decide) dX7_text_12 rfl ?_
  refine aw_put (npc := 16) dX7_text_13 rfl kf_X7_234 R1.2.1 (Nat.le_of_ble_eq_true rfl) (am_ok_int _) rfl ?_
  have R2 := rd_len (v := 0) R1
  have O2 := ob_out (a := 40) (c := .inr (4, ([.ref 41, .int (nI L)] : List Value).set 1 (.int 0))) (by omega) O1
  have F2 := qr_out (a := 40) (c := .inr (4, ([.ref 41, .int (nI L)] : List Value).set 1 (.int 0))) (by omega) (qr_frame F (fun k h1 h2 => f1 k (by omega)))
  have f2 : ∀ k, (k < 39 ∨ 43 ≤ k) → am_up h1 40 (.inr (4, ([.ref 41, .int (nI L)] : List Value).set 1 (.int 0))) k = h k := fun k hk => (am_nE (by omega)).trans (f1 k hk)
  refine aw_iload_n (npc := 17) rfl dX7_text_16 rfl ?_
  rcases hf : (ffF L tp (r 5)).2.1 with _ | q
  · refine aw_if_lt (npc := 20) (tgt := 25) dX7_text_17 rfl (by decide) (fun _ => ?_) (fun z => absurd (by decide : (-1 : Int32) < 0) z)
    refine aw_aload_n (npc := 26) rfl dX7_text_25 rfl ?_
    refine aw_get (npc := 29) dX7_text_26 rfl kf_X7_10 O2.1 rfl ?_
    refine aw_get (npc := 32) dX7_text_29 rfl kf_X7_246 F2.1 rfl ?_
    refine aw_top (y := nI c) hc ?_
    refine aw_bipush (npc := 34) (v := 14) (by decide) dX7_text_32 rfl ?_
    refine aw_icmp_lt (npc := 37) (tgt := 40) dX7_text_34 rfl (by decide) (fun z => ?_) (fun z => ?_)
    · have zc : c < 14 := (nI_ltI (a := c) (b := 14) (by omega) (by omega)).mp z
      obtain ⟨hl, hp, ky, hk, ek⟩ := hok hf
      have hm : mx1 (ffF L tp (r 5)).2.2.2.2.1 ≤ 96 := by unfold mx1; split <;> omega
      refine aw_aload_n (npc := 41) rfl dX7_text_40 rfl ?_
      refine aw_get (npc := 44) dX7_text_41 rfl kf_X7_10 O2.1 rfl ?_
      refine aw_aload_n (npc := 45) rfl dX7_text_44 rfl ?_
      refine aw_get (npc := 48) dX7_text_45 rfl kf_X7_36 O2.1 rfl ?_
      refine aw_callV (npc := 51) (N := mX1_makeText) (b := 39) (mc := 3) (ms := 4 + (ffF L tp (r 5)).2.2.2.1.length + mx1 (ffF L tp (r 5)).2.2.2.2.1) (rc' := rc) (rs' := rs + 200 - (4 + (ffF L tp (r 5)).2.2.2.1.length + mx1 (ffF L tp (r 5)).2.2.2.2.1)) (A := []) (S := [.ref 1]) (L0 := [some (.ref 39)]) dX7_text_48 rfl km_X1_makeText kk_X7_249 R2.1 ⟨by decide, rfl⟩ rfl ⟨rfl, by decide⟩ rfl (Nat.le_of_ble_eq_true rfl) (by omega) (by omega) rfl ?_
      refine r_make (L := L) R2 m7 m8 hl (by omega) hn0 hn (fun h3 e0 e1 e2 f3 => ?_)
      refine aw_re (S' := [.ref n, .ref 1]) rfl ?_
      have F3 := qr_frame F2 (fun k a1 a2 => f3 k (by omega))
      have R3 := rd_frame R2 (fun k a1 a2 => f3 k (by omega))
      have O3 := ob_frame O2 (f3 0 (by omega)) (f3 43 (by omega)) (f3 44 (by omega))
      refine aw_callV (npc := 54) (N := mX0_addText) (b := 1) (mc := 0) (ms := 0) (A := [.ref n]) (S := []) (L0 := [some (.ref 1), some (.ref n)]) dX7_text_51 rfl km_X0_addText kk_X7_253 F3.1 ⟨by decide, rfl⟩ rfl ⟨rfl, by decide⟩ rfl (Nat.le_of_ble_eq_true rfl) (Nat.zero_add _) (Nat.zero_add _) rfl ?_
      have e5 : r1 5 = nI ky := m5.trans ek
      refine r_addText (ky := ky) F3 hc zc hk htx (by omega) (e0.trans (by rw [e5])) (fun h4 F4 f4 => ?_)
      refine aw_re (S' := []) rfl ?_
      have O4 := ob_frame O3 (f4 0 (by omega)) (f4 43 (by omega)) (f4 44 (by omega))
      have R4 := rd_frame R3 (fun k a1 a2 => f4 k (by omega))
      refine aw_aload_n (npc := 55) rfl dX7_text_54 rfl ?_
      refine aw_get (npc := 58) dX7_text_55 rfl kf_X7_10 O4.1 rfl ?_
      refine aw_get (npc := 61) dX7_text_58 rfl kf_X7_246 F4.1 rfl ?_
      refine aw_top (y := nI (c + 1)) pk_us ?_
      refine aw_iconst (npc := 62) (v := 1) (by decide) dX7_text_61 rfl ?_
      refine aw_isub (npc := 63) dX7_text_62 rfl ?_
      refine aw_top (y := nI c) (pk_sub (a := c + 1) (b := 1) (by omega)) ?_
      refine aw_iret rfl dX7_text_63 ?_
      exact kC hf zc ky h4 r1 cd1 hk ek R4 F4 ((f4 n (by omega)).trans (e0.trans (by rw [e5]))) ((f4 (n + 1) (by omega)).trans e1) mc ((f4 (n + 2) (by omega)).trans e2) (fun k a1 a2 a3 => (f4 k a2).trans ((f3 k a1).trans (f2 k a3)))
    · have zc : c = 14 := by
        have z2 : ¬ c < 14 := fun y => z ((nI_ltI (a := c) (b := 14) (by omega) (by omega)).mpr y)
        omega
      refine aw_ldc (npc := 39) kc_X7_82 dX7_text_37 rfl ?_
      refine aw_iret rfl dX7_text_39 ?_
      exact kB hf zc _ _ _ R2 f2
  · have hq96 : q ≤ 96 := (ff_wr hL).2.2.2.2.2 q hf
    refine aw_if_lt (npc := 20) (tgt := 25) dX7_text_17 rfl (by decide) (fun z => absurd z (nI_pos (n := q) (by omega))) (fun _ => ?_)
    refine aw_bipush (npc := 22) (v := -100) (by decide) dX7_text_20 rfl ?_
    refine aw_iload_n (npc := 23) rfl dX7_text_22 rfl ?_
    refine aw_isub (npc := 24) dX7_text_23 rfl ?_
    refine aw_iret rfl dX7_text_24 ?_
    exact kA q hf hq96 _ _ _ R2 f2
