def aset (a : Nat → Nat → Int32) (k : Nat) (f : Nat → Int32) : Nat → Nat → Int32 := fun c => if c = k then f else a c
theorem aset_s {a : Nat → Nat → Int32} {k : Nat} {f : Nat → Int32} : aset a k f k = f := if_pos rfl
theorem aset_n {a : Nat → Nat → Int32} {k c : Nat} {f : Nat → Int32} (h : c ≠ k) : aset a k f c = a c := if_neg h
theorem upd_id {f : Nat → Int32} {k : Nat} : upd f k (f k) = f := funext (fun i => by
  by_cases e : i = k
  · subst e; exact pk_us
  · exact pk_un e)
theorem wn_hw (v m : Int32) : wn v 0 m = hw v m := by
  unfold wn hw
  by_cases q : v < 0
  · rw [if_pos q, if_neg (Int32.not_le.mpr q)]
  · rw [if_neg q, if_pos (Int32.not_lt.mp q)]
theorem mr_all71 {o N f : Nat → Int32} {a : Nat → Nat → Int32} {h : am_H} (F : MR o N a h) : MR o N (aset a 71 f) (am_up h 71 (.inl (0, tl 1434 f))) := by
  obtain ⟨f69, f70, f71, f72, f73, f74, f75, f76, f77, f78, f79, f80, f81, f82, f83, f84, f85, f86, f87, f88, f89, f90, f91⟩ := F
  exact ⟨am_ne (by decide) f69, am_ne (by decide) f70, am_eq, am_ne (by decide) f72, am_ne (by decide) f73, am_ne (by decide) f74, am_ne (by decide) f75, am_ne (by decide) f76, am_ne (by decide) f77, am_ne (by decide) f78, am_ne (by decide) f79, am_ne (by decide) f80, am_ne (by decide) f81, am_ne (by decide) f82, am_ne (by decide) f83, am_ne (by decide) f84, am_ne (by decide) f85, am_ne (by decide) f86, am_ne (by decide) f87, am_ne (by decide) f88, am_ne (by decide) f89, am_ne (by decide) f90, am_ne (by decide) f91⟩
theorem mr_all72 {o N f : Nat → Int32} {a : Nat → Nat → Int32} {h : am_H} (F : MR o N a h) : MR o N (aset a 72 f) (am_up h 72 (.inl (0, tl 1434 f))) := by
  obtain ⟨f69, f70, f71, f72, f73, f74, f75, f76, f77, f78, f79, f80, f81, f82, f83, f84, f85, f86, f87, f88, f89, f90, f91⟩ := F
  exact ⟨am_ne (by decide) f69, am_ne (by decide) f70, am_ne (by decide) f71, am_eq, am_ne (by decide) f73, am_ne (by decide) f74, am_ne (by decide) f75, am_ne (by decide) f76, am_ne (by decide) f77, am_ne (by decide) f78, am_ne (by decide) f79, am_ne (by decide) f80, am_ne (by decide) f81, am_ne (by decide) f82, am_ne (by decide) f83, am_ne (by decide) f84, am_ne (by decide) f85, am_ne (by decide) f86, am_ne (by decide) f87, am_ne (by decide) f88, am_ne (by decide) f89, am_ne (by decide) f90, am_ne (by decide) f91⟩
theorem mr_all70 {o N f : Nat → Int32} {a : Nat → Nat → Int32} {h : am_H} (F : MR o N a h) : MR o f a (am_up h 70 (.inl (0, tl 1434 f))) := by
  obtain ⟨f69, f70, f71, f72, f73, f74, f75, f76, f77, f78, f79, f80, f81, f82, f83, f84, f85, f86, f87, f88, f89, f90, f91⟩ := F
  exact ⟨am_ne (by decide) f69, am_eq, am_ne (by decide) f71, am_ne (by decide) f72, am_ne (by decide) f73, am_ne (by decide) f74, am_ne (by decide) f75, am_ne (by decide) f76, am_ne (by decide) f77, am_ne (by decide) f78, am_ne (by decide) f79, am_ne (by decide) f80, am_ne (by decide) f81, am_ne (by decide) f82, am_ne (by decide) f83, am_ne (by decide) f84, am_ne (by decide) f85, am_ne (by decide) f86, am_ne (by decide) f87, am_ne (by decide) f88, am_ne (by decide) f89, am_ne (by decide) f90, am_ne (by decide) f91⟩
set_option maxHeartbeats 4000000 in
set_option maxRecDepth 100000 in
theorem m_copyAllL {X : List Int32} {d rc rs n : Nat} {Q : am_Q} {h : am_H} {a0 a1 : Nat} {f : Nat → Int32} (hne : a0 ≠ a1) (t0 : h a0 = some (.inl (0, tl 1434 f))) : ∀ (q i : Nat), i + q = 1434 → ∀ (u : Nat → Int32), (∀ j, j < i → u j = f j) → Q none n (am_up h a1 (.inl (0, tl 1434 f))) → AW X mX8_copyAll d rc rs 2 [some (.ref a0), some (.ref a1), some (.int (nI i))] [] n (am_up h a1 (.inl (0, tl 1434 u))) Q := by
  intro q
  induction q with
  | zero =>
    intro i hi u hf hq
    obtain rfl : i = 1434 := by omega
    refine aw_iload_n (npc := 3) rfl dX8_copyAll_2 rfl ?_
    refine aw_sipush (npc := 6) (v := 1434) (by decide) dX8_copyAll_3 rfl ?_
    refine aw_icmp_ge (npc := 9) (tgt := 21) dX8_copyAll_6 rfl (by decide) (fun _ => ?_) (fun hc => absurd (nI_le (a := 1434) (b := 1434) (by omega) (by omega)) hc)
    refine aw_vret rfl dX8_copyAll_21 ?_
    exact (congrArg (fun l : List Int32 => am_up h a1 (.inl (0, l))) (tl_congr (fun j hj => hf j hj))) ▸ hq
  | succ q ih =>
    intro i hi u hf hq
    refine aw_iload_n (npc := 3) rfl dX8_copyAll_2 rfl ?_
    refine aw_sipush (npc := 6) (v := 1434) (by decide) dX8_copyAll_3 rfl ?_
    refine aw_icmp_ge (npc := 9) (tgt := 21) dX8_copyAll_6 rfl (by decide) (fun hc => absurd hc (nI_ge (a := i) (b := 1434) (by omega) (by omega))) (fun _ => ?_)
    refine aw_aload_n (npc := 10) rfl dX8_copyAll_9 rfl ?_
    refine aw_iload_n (npc := 11) rfl dX8_copyAll_10 rfl ?_
    refine aw_aload_n (npc := 12) rfl dX8_copyAll_11 rfl ?_
    refine aw_iload_n (npc := 13) rfl dX8_copyAll_12 rfl ?_
    refine aw_iald (npc := 14) (x := f i) (j := i) dX8_copyAll_13 rfl (am_ne hne t0) (am_ix_nI (by omega)) (tl_at (by omega)) ?_
    refine aw_iast (npc := 15) (j := i) dX8_copyAll_14 rfl am_eq (am_ix_nI (by omega)) (by rw [tl_len]; omega) (show _ = am_up h a1 (.inl (0, tl 1434 (upd u i (f i)))) from am_uu.trans (congrArg (fun l : List Int32 => am_up h a1 (.inl (0, l))) tl_set)) ?_
    refine aw_iinc (npc := 18) (v := nI (i + 1)) (L' := [some (.ref a0), some (.ref a1), some (.int (nI (i + 1)))]) dX8_copyAll_15 rfl rfl (nI_1 _) (by decide) rfl rfl ?_
    refine aw_goto (npc := 2) dX8_copyAll_18 (by decide) ?_
    refine ih (i + 1) (by omega) _ (fun j hj => ?_) hq
    by_cases z : j = i
    · subst z; exact pk_us
    · exact (pk_un z).trans (hf j (by omega))
set_option maxHeartbeats 4000000 in
set_option maxRecDepth 100000 in
theorem m_copyAll {X : List Int32} {d rc rs n : Nat} {Q : am_Q} {h : am_H} {a0 a1 : Nat} {f : Nat → Int32} (hne : a0 ≠ a1) (t0 : h a0 = some (.inl (0, tl 1434 f))) {u : Nat → Int32} (t1 : h a1 = some (.inl (0, tl 1434 u))) (hq : Q none n (am_up h a1 (.inl (0, tl 1434 f)))) : AW X mX8_copyAll d rc rs 0 [some (.ref a0), some (.ref a1), none] [] n h Q := by
  refine aw_hp (h' := am_up h a1 (.inl (0, tl 1434 u))) (am_us t1).symm ?_
  refine aw_iconst (npc := 1) (v := 0) (by decide) dX8_copyAll_0 rfl ?_
  refine aw_istore_n (npc := 2) (L' := [some (.ref a0), some (.ref a1), some (.int 0)]) dX8_copyAll_1 rfl (by decide) rfl rfl ?_
  refine aw_locs (L' := [some (.ref a0), some (.ref a1), some (.int (nI 0))]) rfl ?_
  exact m_copyAllL hne t0 1434 0 (by omega) u (fun j hj => by omega) hq
set_option maxHeartbeats 4000000 in
set_option maxRecDepth 100000 in
theorem C_keep {X : List Int32} {d rc rs n : Nat} {Q : am_Q} {h : am_H} {N : Nat → Int32} {tx : List Value} {lk mv : Nat → Int32} {ik wc : Int32} {fr c : Nat} {NI : Nat → Int32} {txI : List Value} {lkI mvI : Nat → Int32} {tb : TB} (O : OB ik wc h) (F : QR 1 N tx lk mv h) (F3 : QR 25 NI txI lkI mvI h) (G : TT tb h) (hl1 : tx.length = 14) (hl25 : txI.length = 14) (hok1 : ∀ (t : Nat) (v : Value), tx[t]? = some v → v = .null ∨ ∃ a, a < tb.1 ∧ v = .ref (92 + 3 * a)) (hq : ∀ h9, OB 1 wc h9 → QR 25 N tx lk mvI h9 → am_fp (fun k => k ≠ 0 ∧ (k < 25 ∨ 37 ≤ k)) h9 h → Q (some (.int (N 1))) n h9) : AW X mX7_keep (d + 12) rc rs 0 [some (.ref 0)] [] n h Q := by
  refine aw_aload_n (npc := 1) rfl dX7_keep_0 rfl ?_
  refine aw_get (npc := 4) dX7_keep_1 rfl kf_X7_19 O.1 rfl ?_
  refine aw_aload_n (npc := 5) rfl dX7_keep_4 rfl ?_
  refine aw_get (npc := 8) dX7_keep_5 rfl kf_X7_10 O.1 rfl ?_
  refine aw_callV (npc := 11) (N := mX0_becomes) (b := 25) (mc := 0) (ms := 0) (A := [.ref 1]) (S := []) (L0 := [some (.ref 25), some (.ref 1), none]) dX7_keep_8 rfl km_X0_becomes kk_X7_193 F3.1 ⟨by decide, rfl⟩ rfl ⟨rfl, by decide⟩ rfl (Nat.le_of_ble_eq_true rfl) (Nat.zero_add _) (Nat.zero_add _) rfl ?_
  refine g_bec (tb := tb) F3 F G (by omega) (by omega) hl25 hl1 hok1 (fun hp3 F1 fz2 => ?_)
  have O4 := ob_frame O (fz2 0 (by omega)) (fz2 43 (by omega)) (fz2 44 (by omega))
  have F5 := qr_frame F (fun k h1 h2 => fz2 k (by omega))
  have G6 := tt_frame G (fun k hk => fz2 k (by omega))
  refine aw_aload_n (npc := 12) rfl dX7_keep_11 rfl ?_
  refine aw_iconst (npc := 13) (v := 1) (by decide) dX7_keep_12 rfl ?_
  refine aw_put (npc := 16) dX7_keep_13 rfl kf_X7_22 O4.1 (Nat.le_of_ble_eq_true rfl) am_ok_z1 rfl ?_
  have O7 := ob_p3 (v := 1) O4
  have F8 := qr_out (a := 0) (c := .inr (7, ([.ref 1, .ref 13, .ref 25, .int ik, .ref 37, .ref 39, .ref 40, .ref 43, .ref 44, .ref 45, .int wc] : List Value).set 3 (.int 1))) (by omega) F5
  have F9 := qr_out (a := 0) (c := .inr (7, ([.ref 1, .ref 13, .ref 25, .int ik, .ref 37, .ref 39, .ref 40, .ref 43, .ref 44, .ref 45, .int wc] : List Value).set 3 (.int 1))) (by omega) F1
  have G10 := tt_out (k := 0) (c := .inr (7, ([.ref 1, .ref 13, .ref 25, .int ik, .ref 37, .ref 39, .ref 40, .ref 43, .ref 44, .ref 45, .int wc] : List Value).set 3 (.int 1))) (by omega) G6
  refine aw_aload_n (npc := 17) rfl dX7_keep_16 rfl ?_
  refine aw_get (npc := 20) dX7_keep_17 rfl kf_X7_19 O7.1 rfl ?_
  refine aw_get (npc := 23) dX7_keep_20 rfl kf_X7_79 F9.1 rfl ?_
  refine aw_iret rfl dX7_keep_23 ?_
  exact hq _ O7 F9 (am_fpU (show ¬ (0 ≠ 0 ∧ (0 < 25 ∨ 37 ≤ 0)) by omega) (am_fpT (fun k (hk : k ≠ 0 ∧ (k < 25 ∨ 37 ≤ k)) => fz2 k (by omega)) am_fp0))
set_option maxHeartbeats 4000000 in
set_option maxRecDepth 100000 in
theorem C_back {X : List Int32} {d rc rs n : Nat} {Q : am_Q} {h : am_H} {N : Nat → Int32} {tx : List Value} {lk mv : Nat → Int32} {ik wc : Int32} {fr c : Nat} {NI : Nat → Int32} {txI : List Value} {lkI mvI : Nat → Int32} {tb : TB} (O : OB ik wc h) (F : QR 1 N tx lk mv h) (F3 : QR 25 NI txI lkI mvI h) (G : TT tb h) (hl1 : tx.length = 14) (hl25 : txI.length = 14) (hok25 : ∀ (t : Nat) (v : Value), txI[t]? = some v → v = .null ∨ ∃ a, a < tb.1 ∧ v = .ref (92 + 3 * a)) (k0 : ik = 0 → Q (some (.int (-1000000002))) n h) (k1 : ¬ ik = 0 → ∀ h9, QR 1 NI txI lkI mv h9 → am_fp (fun k => k < 1 ∨ 13 ≤ k) h9 h → Q (some (.int (NI 1))) n h9) : AW X mX7_back (d + 12) rc rs 0 [some (.ref 0)] [] n h Q := by
  refine aw_aload_n (npc := 1) rfl dX7_back_0 rfl ?_
  refine aw_get (npc := 4) dX7_back_1 rfl kf_X7_22 O.1 rfl ?_
  refine aw_if_ne (npc := 7) (tgt := 11) dX7_back_4 rfl (by decide) (fun hc1 => ?_) (fun hc1 => ?_)
  · refine aw_aload_n (npc := 12) rfl dX7_back_11 rfl ?_
    refine aw_get (npc := 15) dX7_back_12 rfl kf_X7_10 O.1 rfl ?_
    refine aw_aload_n (npc := 16) rfl dX7_back_15 rfl ?_
    refine aw_get (npc := 19) dX7_back_16 rfl kf_X7_19 O.1 rfl ?_
    refine aw_callV (npc := 22) (N := mX0_becomes) (b := 1) (mc := 0) (ms := 0) (A := [.ref 25]) (S := []) (L0 := [some (.ref 1), some (.ref 25), none]) dX7_back_19 rfl km_X0_becomes kk_X7_193 F.1 ⟨by decide, rfl⟩ rfl ⟨rfl, by decide⟩ rfl (Nat.le_of_ble_eq_true rfl) (Nat.zero_add _) (Nat.zero_add _) rfl ?_
    refine g_bec (tb := tb) F F3 G (by omega) (by omega) hl1 hl25 hok25 (fun hp4 F2 fz3 => ?_)
    have O5 := ob_frame O (fz3 0 (by omega)) (fz3 43 (by omega)) (fz3 44 (by omega))
    have F6 := qr_frame F3 (fun k h1 h2 => fz3 k (by omega))
    have G7 := tt_frame G (fun k hk => fz3 k (by omega))
    refine aw_aload_n (npc := 23) rfl dX7_back_22 rfl ?_
    refine aw_get (npc := 26) dX7_back_23 rfl kf_X7_10 O5.1 rfl ?_
    refine aw_get (npc := 29) dX7_back_26 rfl kf_X7_79 F2.1 rfl ?_
    refine aw_iret rfl dX7_back_29 ?_
    exact k1 hc1 _ F2 (am_fpT (fun k (hk : k < 1 ∨ 13 ≤ k) => fz3 k (by omega)) am_fp0)
  · refine aw_ldcw (npc := 10) kc_X7_321 dX7_back_7 rfl ?_
    refine aw_iret rfl dX7_back_10 ?_
    exact k0 hc1
set_option maxHeartbeats 4000000 in
set_option maxRecDepth 100000 in
theorem M_keep {X : List Int32} {d rc rs n : Nat} {Q : am_Q} {h : am_H} {o N : Nat → Int32} {a : Nat → Nat → Int32} {fr c : Nat} (F : MR o N a h) (hq : ∀ h9, MR (upd o 3 1) N (aset a 71 N) h9 → am_fp (fun k => k < 69 ∨ 92 ≤ k) h9 h → Q (some (.int (N 1))) n h9) : AW X mX8_keep (d + 12) rc rs 0 [some (.ref 69)] [] n h Q := by
  refine aw_aload_n (npc := 1) rfl dX8_keep_0 rfl ?_
  refine aw_get (npc := 4) dX8_keep_1 rfl kf_X8_9 F.1 rfl ?_
  refine aw_aload_n (npc := 5) rfl dX8_keep_4 rfl ?_
  refine aw_get (npc := 8) dX8_keep_5 rfl kf_X8_13 F.1 rfl ?_
  refine aw_callS (npc := 11) (N := mX8_copyAll) (mc := 0) (ms := 0) (A := [.ref 70, .ref 71]) (S := []) (L0 := [some (.ref 70), some (.ref 71), none]) dX8_keep_8 rfl km_X8_copyAll kk_X8_273 rfl ⟨rfl, by decide⟩ rfl (Nat.le_of_ble_eq_true rfl) (Nat.zero_add _) (Nat.zero_add _) rfl ?_
  refine m_copyAll (by decide) F.2.1 F.2.2.1 ?_
  have F1 := mr_all71 (f := N) F
  refine aw_aload_n (npc := 12) rfl dX8_keep_11 rfl ?_
  refine aw_iconst (npc := 13) (v := 1) (by decide) dX8_keep_12 rfl ?_
  refine aw_put (npc := 16) dX8_keep_13 rfl kf_X8_269 F1.1 (Nat.le_of_ble_eq_true rfl) am_ok_z1 rfl ?_
  have F2 := mr_o3 (v := 1) F1
  refine aw_aload_n (npc := 17) rfl dX8_keep_16 rfl ?_
  refine aw_get (npc := 20) dX8_keep_17 rfl kf_X8_9 F2.1 rfl ?_
  refine aw_iconst (npc := 21) (v := 1) (by decide) dX8_keep_20 rfl ?_
  refine aw_iald (npc := 22) (x := N 1) (j := 1) dX8_keep_21 rfl F2.2.1 ⟨by decide, by decide⟩ (tl_at (by omega)) ?_
  refine aw_iret rfl dX8_keep_22 ?_
  exact hq _ F2 (am_fpU (show ¬ (69 < 69 ∨ 92 ≤ 69) by omega) (am_fpU (show ¬ (71 < 69 ∨ 92 ≤ 71) by omega) am_fp0))
set_option maxHeartbeats 4000000 in
set_option maxRecDepth 100000 in
theorem M_back {X : List Int32} {d rc rs n : Nat} {Q : am_Q} {h : am_H} {o N : Nat → Int32} {a : Nat → Nat → Int32} {fr c : Nat} (F : MR o N a h) (k0 : o 3 = 0 → Q (some (.int (-1000000002))) n h) (k1 : ¬ o 3 = 0 → ∀ h9, MR o (a 71) a h9 → am_fp (fun k => k < 69 ∨ 92 ≤ k) h9 h → Q (some (.int (a 71 1))) n h9) : AW X mX8_back (d + 12) rc rs 0 [some (.ref 69)] [] n h Q := by
  refine aw_aload_n (npc := 1) rfl dX8_back_0 rfl ?_
  refine aw_get (npc := 4) dX8_back_1 rfl kf_X8_269 F.1 rfl ?_
  refine aw_if_ne (npc := 7) (tgt := 11) dX8_back_4 rfl (by decide) (fun hc1 => ?_) (fun hc1 => ?_)
  · refine aw_aload_n (npc := 12) rfl dX8_back_11 rfl ?_
    refine aw_get (npc := 15) dX8_back_12 rfl kf_X8_13 F.1 rfl ?_
    refine aw_aload_n (npc := 16) rfl dX8_back_15 rfl ?_
    refine aw_get (npc := 19) dX8_back_16 rfl kf_X8_9 F.1 rfl ?_
    refine aw_callS (npc := 22) (N := mX8_copyAll) (mc := 0) (ms := 0) (A := [.ref 71, .ref 70]) (S := []) (L0 := [some (.ref 71), some (.ref 70), none]) dX8_back_19 rfl km_X8_copyAll kk_X8_273 rfl ⟨rfl, by decide⟩ rfl (Nat.le_of_ble_eq_true rfl) (Nat.zero_add _) (Nat.zero_add _) rfl ?_
    refine m_copyAll (by decide) F.2.2.1 F.2.1 ?_
    have F2 := mr_all70 (f := a 71) F
    refine aw_aload_n (npc := 23) rfl dX8_back_22 rfl ?_
    refine aw_get (npc := 26) dX8_back_23 rfl kf_X8_9 F2.1 rfl ?_
    refine aw_iconst (npc := 27) (v := 1) (by decide) dX8_back_26 rfl ?_
    refine aw_iald (npc := 28) (x := (a 71) 1) (j := 1) dX8_back_27 rfl F2.2.1 ⟨by decide, by decide⟩ (tl_at (by omega)) ?_
    refine aw_iret rfl dX8_back_28 ?_
    exact k1 hc1 _ F2 (am_fpU (show ¬ (70 < 69 ∨ 92 ≤ 70) by omega) am_fp0)
  · refine aw_ldcw (npc := 10) kc_X8_265 dX8_back_7 rfl ?_
    refine aw_iret rfl dX8_back_10 ?_
    exact k0 hc1
def poS (z : Nat) (cl : Nat → Int32) (s t : Nat) (p : (Nat → Int32) × Int32) : (Nat → Int32) × Int32 := if t < z then (if cl (24 * s + t) = (-1000000005) then p else if hw (cl (24 * s + t)) 9 = p.1 (8 + t) then p else (upd p.1 (8 + t) (hw (cl (24 * s + t)) 9), p.2 + 1)) else p
def poM (z : Nat) (cl : Nat → Int32) (s : Nat) : Nat → Nat → (Nat → Int32) × Int32 → (Nat → Int32) × Int32
  | 0, _, p => p
  | m + 1, t, p => poM z cl s m (t + 1) (poS z cl s t p)
theorem poM_id {z : Nat} {cl : Nat → Int32} {s : Nat} : ∀ (m t : Nat) (p : (Nat → Int32) × Int32), z ≤ t → poM z cl s m t p = p := by
  intro m
  induction m with
  | zero => intro t p _; rfl
  | succ m ih =>
    intro t p h
    show poM z cl s m (t + 1) (poS z cl s t p) = p
    rw [show poS z cl s t p = p from if_neg (by omega)]
    exact ih (t + 1) p (by omega)
theorem wi_ltz {y : Int32} {z t : Nat} (hy : y = nI z) (hz : z < 1000) (h : wi (nI t) 0 (y - 1)) (ht : t < 1000) : t < z := by
  obtain ⟨q, hq, e⟩ := wi_idx hy hz h
  have e2 := congrArg Int32.toInt e
  rw [nI_toInt (by omega), nI_toInt (by omega)] at e2
  omega
noncomputable def paV (sr sz cl N : Nat → Int32) (s : Int32) : Int32 := cI (wi s 0 3) (cI (sr (fN s) = -1) (-1000000011) (poM (fN (sz (fN s))) cl (fN s) 4 0 (N, 0)).2) (-1000000001)
noncomputable def paN (sr sz cl N : Nat → Int32) (s : Int32) : Nat → Int32 := cI (wi s 0 3) (cI (sr (fN s) = -1) N (poM (fN (sz (fN s))) cl (fN s) 4 0 (N, 0)).1) N
set_option maxHeartbeats 4000000 in
set_option maxRecDepth 100000 in
theorem C_pourL {X : List Int32} {d rc rs n : Nat} {Q : am_Q} {tx : List Value} {lk mv : Nat → Int32} {ik wc : Int32} {sr sz cl : Nat → Int32} {s z : Nat} (hs : s < 4) (hz : z ≤ 24) (ez : sz s = nI z) : ∀ (m t : Nat), t + m = 4 → ∀ (N : Nat → Int32) (c : Int32) (v5 : Option Value) (h : am_H), OB ik wc h → QR 1 N tx lk mv h → RW sr sz cl h → (∀ N9 c9 w9 h9, (N9, c9) = poM z cl s m t (N, c) → QR 1 N9 tx lk mv h9 → am_fp (fun k => k < 1 ∨ 13 ≤ k) h9 h → AW X mX7_pour (d + 12) rc rs 97 [some (.ref 0), some (.int (nI s)), some (.ref (46 + 2 * s)), some (.int c9), some (.int (nI 4)), w9] [] n h9 Q) → AW X mX7_pour (d + 12) rc rs 32 [some (.ref 0), some (.int (nI s)), some (.ref (46 + 2 * s)), some (.int c), some (.int (nI t)), v5] [] n h Q := by
  intro m
  induction m with
  | zero =>
    intro t ht N c v5 h O F Rw hq
    obtain rfl : t = 4 := by omega
    refine aw_iload (npc := 34) rfl dX7_pour_32 rfl ?_
    refine aw_iconst (npc := 35) (v := 4) (by decide) dX7_pour_34 rfl ?_
    exact aw_icmp_ge (npc := 38) (tgt := 97) dX7_pour_35 rfl (by decide) (fun _ => hq N c v5 h rfl F am_fp0) (fun hc => absurd (nI_le (a := 4) (b := 4) (Nat.le_refl _) (by decide)) hc)
  | succ m ih =>
    intro t ht N c v5 h O F Rw hq
    refine aw_iload (npc := 34) rfl dX7_pour_32 rfl ?_
    refine aw_iconst (npc := 35) (v := 4) (by decide) dX7_pour_34 rfl ?_
    refine aw_icmp_ge (npc := 38) (tgt := 97) dX7_pour_35 rfl (by decide) (fun hc => absurd hc (nI_ge (a := t) (b := 4) (by omega) (by omega))) (fun _ => ?_)
    refine aw_aload_n (npc := 39) rfl dX7_pour_38 rfl ?_
    refine aw_iload (npc := 41) rfl dX7_pour_39 rfl ?_
    refine aw_callV (npc := 44) (N := mX2_isNumber) (b := 46 + 2 * s) (mc := 0) (ms := 0) (A := [.int (nI t)]) (S := []) (L0 := [some (.ref (46 + 2 * s)), some (.int (nI t))]) dX7_pour_41 rfl km_X2_isNumber kk_X7_215 (Rw s (by omega)).1 ⟨by decide, rfl⟩ rfl ⟨rfl, by decide⟩ rfl (Nat.le_of_ble_eq_true rfl) (Nat.zero_add _) (Nat.zero_add _) rfl ?_
    refine aw_aload_n (npc := 1) rfl dX2_isNumber_0 rfl ?_
    refine aw_iload_n (npc := 2) rfl dX2_isNumber_1 rfl ?_
    refine aw_callV (npc := 5) (N := mX2_isPlace) (b := 46 + 2 * s) (mc := 0) (ms := 0) (A := [.int (nI t)]) (S := []) (L0 := [some (.ref (46 + 2 * s)), some (.int (nI t))]) dX2_isNumber_2 rfl km_X2_isPlace kk_X2_38 (Rw s (by omega)).1 ⟨by decide, rfl⟩ rfl ⟨rfl, by decide⟩ rfl (Nat.le_of_ble_eq_true rfl) (Nat.zero_add _) (Nat.zero_add _) rfl ?_
    refine aw_iload_n (npc := 1) rfl dX2_isPlace_0 rfl ?_
    refine aw_iconst (npc := 2) (v := 0) (by decide) dX2_isPlace_1 rfl ?_
    refine aw_aload_n (npc := 3) rfl dX2_isPlace_2 rfl ?_
    refine aw_get (npc := 6) dX2_isPlace_3 rfl kf_X2_15 (Rw s (by omega)).1 rfl ?_
    refine aw_iconst (npc := 7) (v := 1) (by decide) dX2_isPlace_6 rfl ?_
    refine aw_isub (npc := 8) dX2_isPlace_7 rfl ?_
    refine aw_callSN (npc := 11) (N := mX7_within) (mc := 0) (ms := 0) (A := [.int (nI t), .int 0, .int ((sz s) - 1)]) (S := []) (L0 := [some (.int (nI t)), some (.int 0), some (.int ((sz s) - 1))]) dX2_isPlace_8 rfl km_X7_within kk_X2_34 rfl ⟨rfl, by decide⟩ rfl (Nat.le_of_ble_eq_true rfl) (Nat.zero_add _) (Nat.zero_add _) rfl ?_
    refine c_X7_within (fun hw2 => ?_) (fun hw2 => ?_)
    · refine aw_re (S' := [.int 1]) rfl ?_
      refine aw_zret rfl rfl dX2_isPlace_11 ?_
      refine aw_re (S' := [.int 1]) rfl ?_
      refine aw_if_eq (npc := 8) (tgt := 23) dX2_isNumber_5 rfl (by decide) (fun hc => absurd hc (by decide)) (fun _ => ?_)
      refine aw_aload_n (npc := 9) rfl dX2_isNumber_8 rfl ?_
      refine aw_get (npc := 12) dX2_isNumber_9 rfl kf_X2_18 (Rw s (by omega)).1 rfl ?_
      refine aw_iload_n (npc := 13) rfl dX2_isNumber_12 rfl ?_
      refine aw_iald (npc := 14) (x := cl (24 * s + t)) (j := t) dX2_isNumber_13 rfl (Rw s (by omega)).2 (am_ix_nI (by omega)) (tl_at (by omega)) ?_
      refine aw_ldc (npc := 16) kc_X2_42 dX2_isNumber_14 rfl ?_
      refine aw_icmp_eq (npc := 19) (tgt := 23) dX2_isNumber_16 rfl (by decide) (fun hc3 => ?_) (fun hc3 => ?_)
      · refine aw_iconst (npc := 24) (v := 0) (by decide) dX2_isNumber_23 rfl ?_
        refine aw_zret rfl rfl dX2_isNumber_24 ?_
        refine aw_re (S' := [.int 0]) rfl ?_
        refine aw_if_eq (npc := 47) (tgt := 91) dX7_pour_44 rfl (by decide) (fun _ => ?_) (fun hc => absurd (by decide) hc)
        refine aw_iinc (npc := 94) (v := nI (t + 1)) (L' := [some (.ref 0), some (.int (nI s)), some (.ref (46 + 2 * s)), some (.int c), some (.int (nI (t + 1))), v5]) dX7_pour_91 rfl rfl (nI_1 _) (by decide) rfl rfl ?_
        refine aw_goto (npc := 32) dX7_pour_94 (by decide) ?_
        have e9 : poS z cl s t (N, c) = (N, c) := by simp [poS, wi_ltz ez (by omega) hw2 (by omega), hc3]
        exact ih (t + 1) (by omega) _ _ _ _ O F Rw (fun N9 c9 w9 h9 E9 F9 fz => hq N9 c9 w9 h9 (E9.trans (congrArg (poM z cl s m (t + 1)) e9.symm)) F9 (am_fpT fz am_fp0))
      · refine aw_iconst (npc := 20) (v := 1) (by decide) dX2_isNumber_19 rfl ?_
        refine aw_goto (npc := 24) dX2_isNumber_20 (by decide) ?_
        refine aw_zret rfl rfl dX2_isNumber_24 ?_
        refine aw_re (S' := [.int 1]) rfl ?_
        refine aw_if_eq (npc := 47) (tgt := 91) dX7_pour_44 rfl (by decide) (fun hc => absurd hc (by decide)) (fun _ => ?_)
        refine aw_aload_n (npc := 48) rfl dX7_pour_47 rfl ?_
        refine aw_get (npc := 51) dX7_pour_48 rfl kf_X7_218 (Rw s (by omega)).1 rfl ?_
        refine aw_iload (npc := 53) rfl dX7_pour_51 rfl ?_
        refine aw_iald (npc := 54) (x := cl (24 * s + t)) (j := t) dX7_pour_53 rfl (Rw s (by omega)).2 (am_ix_nI (by omega)) (tl_at (by omega)) ?_
        refine aw_bipush (npc := 56) (v := 9) (by decide) dX7_pour_54 rfl ?_
        refine aw_callS (npc := 59) (N := mX7_heldWithin) (mc := 0) (ms := 0) (A := [.int (cl (24 * s + t)), .int 9]) (S := []) (L0 := [some (.int (cl (24 * s + t))), some (.int 9)]) dX7_pour_56 rfl km_X7_heldWithin kk_X7_284 rfl ⟨rfl, by decide⟩ rfl (Nat.le_of_ble_eq_true rfl) (Nat.zero_add _) (Nat.zero_add _) rfl ?_
        refine g_held ?_
        refine aw_re (S' := [.int (hw (cl (24 * s + t)) 9)]) rfl ?_
        refine aw_istore (npc := 61) (L' := [some (.ref 0), some (.int (nI s)), some (.ref (46 + 2 * s)), some (.int c), some (.int (nI t)), some (.int (hw (cl (24 * s + t)) 9))]) dX7_pour_59 rfl (by decide) rfl rfl ?_
        refine aw_iload (npc := 63) rfl dX7_pour_61 rfl ?_
        refine aw_aload_n (npc := 64) rfl dX7_pour_63 rfl ?_
        refine aw_get (npc := 67) dX7_pour_64 rfl kf_X7_10 O.1 rfl ?_
        refine aw_get (npc := 70) dX7_pour_67 rfl kf_X7_127 F.1 rfl ?_
        refine aw_iload (npc := 72) rfl dX7_pour_70 rfl ?_
        refine aw_iald (npc := 73) (x := N (8 + 1 * t)) (j := t) dX7_pour_72 rfl F.2.1 (am_ix_nI (by omega)) (tl_at (by omega)) ?_
        refine aw_icmp_eq (npc := 76) (tgt := 91) dX7_pour_73 rfl (by decide) (fun hc4 => ?_) (fun hc4 => ?_)
        · refine aw_iinc (npc := 94) (v := nI (t + 1)) (L' := [some (.ref 0), some (.int (nI s)), some (.ref (46 + 2 * s)), some (.int c), some (.int (nI (t + 1))), some (.int (hw (cl (24 * s + t)) 9))]) dX7_pour_91 rfl rfl (nI_1 _) (by decide) rfl rfl ?_
          refine aw_goto (npc := 32) dX7_pour_94 (by decide) ?_
          simp only [Nat.one_mul] at hc4
          have e9 : poS z cl s t (N, c) = (N, c) := by simp [poS, wi_ltz ez (by omega) hw2 (by omega), hc3, hc4]
          exact ih (t + 1) (by omega) _ _ _ _ O F Rw (fun N9 c9 w9 h9 E9 F9 fz => hq N9 c9 w9 h9 (E9.trans (congrArg (poM z cl s m (t + 1)) e9.symm)) F9 (am_fpT fz am_fp0))
        · refine aw_aload_n (npc := 77) rfl dX7_pour_76 rfl ?_
          refine aw_get (npc := 80) dX7_pour_77 rfl kf_X7_10 O.1 rfl ?_
          refine aw_get (npc := 83) dX7_pour_80 rfl kf_X7_127 F.1 rfl ?_
          refine aw_iload (npc := 85) rfl dX7_pour_83 rfl ?_
          refine aw_iload (npc := 87) rfl dX7_pour_85 rfl ?_
          refine aw_iast (npc := 88) (j := t) dX7_pour_87 rfl F.2.1 (am_ix_nI (by omega)) (by rw [tl_len]; omega) rfl ?_
          have F5 := qr_stand (j := t) (v := hw (cl (24 * s + t)) 9) F (by omega)
          have O6 := ob_out (a := 2) (c := .inl (0, (tl 4 (fun z9 => N (8 + 1 * z9))).set t (hw (cl (24 * s + t)) 9))) (by omega) O
          have Rw7 := rw_out (a := 2) (c := .inl (0, (tl 4 (fun z9 => N (8 + 1 * z9))).set t (hw (cl (24 * s + t)) 9))) (by omega) Rw
          refine aw_iinc (npc := 91) (v := c + 1) (L' := [some (.ref 0), some (.int (nI s)), some (.ref (46 + 2 * s)), some (.int (c + 1)), some (.int (nI t)), some (.int (hw (cl (24 * s + t)) 9))]) dX7_pour_88 rfl rfl rfl (by decide) rfl rfl ?_
          refine aw_iinc (npc := 94) (v := nI (t + 1)) (L' := [some (.ref 0), some (.int (nI s)), some (.ref (46 + 2 * s)), some (.int (c + 1)), some (.int (nI (t + 1))), some (.int (hw (cl (24 * s + t)) 9))]) dX7_pour_91 rfl rfl (nI_1 _) (by decide) rfl rfl ?_
          refine aw_goto (npc := 32) dX7_pour_94 (by decide) ?_
          simp only [Nat.one_mul] at hc4
          have e9 : poS z cl s t (N, c) = (upd N (8 + 1 * t) (hw (cl (24 * s + t)) 9), c + 1) := by simp [poS, wi_ltz ez (by omega) hw2 (by omega), hc3, hc4]
          exact ih (t + 1) (by omega) _ _ _ _ O6 F5 Rw7 (fun N9 c9 w9 h9 E9 F9 fz => hq N9 c9 w9 h9 (E9.trans (congrArg (poM z cl s m (t + 1)) e9.symm)) F9 (am_fpT fz (am_fpU (show ¬ (2 < 1 ∨ 13 ≤ 2) by omega) am_fp0)))
    · refine aw_re (S' := [.int 0]) rfl ?_
      refine aw_zret rfl rfl dX2_isPlace_11 ?_
      refine aw_re (S' := [.int 0]) rfl ?_
      refine aw_if_eq (npc := 8) (tgt := 23) dX2_isNumber_5 rfl (by decide) (fun _ => ?_) (fun hc => absurd (by decide) hc)
      refine aw_iconst (npc := 24) (v := 0) (by decide) dX2_isNumber_23 rfl ?_
      refine aw_zret rfl rfl dX2_isNumber_24 ?_
      refine aw_re (S' := [.int 0]) rfl ?_
      refine aw_if_eq (npc := 47) (tgt := 91) dX7_pour_44 rfl (by decide) (fun _ => ?_) (fun hc => absurd (by decide) hc)
      refine aw_iinc (npc := 94) (v := nI (t + 1)) (L' := [some (.ref 0), some (.int (nI s)), some (.ref (46 + 2 * s)), some (.int c), some (.int (nI (t + 1))), v5]) dX7_pour_91 rfl rfl (nI_1 _) (by decide) rfl rfl ?_
      refine aw_goto (npc := 32) dX7_pour_94 (by decide) ?_
      have e9 : poS z cl s t (N, c) = (N, c) := by simp [poS, (show ¬ t < z from fun q => hw2 (wi_idx' ez (by omega) q rfl))]
      exact ih (t + 1) (by omega) _ _ _ _ O F Rw (fun N9 c9 w9 h9 E9 F9 fz => hq N9 c9 w9 h9 (E9.trans (congrArg (poM z cl s m (t + 1)) e9.symm)) F9 (am_fpT fz am_fp0))
set_option maxHeartbeats 4000000 in
set_option maxRecDepth 100000 in
theorem C_pour {X : List Int32} {d rc rs n : Nat} {Q : am_Q} {h : am_H} {N : Nat → Int32} {tx : List Value} {lk mv : Nat → Int32} {ik wc : Int32} {fr c : Nat} {s : Int32} {sr sz cl : Nat → Int32} (O : OB ik wc h) (F : QR 1 N tx lk mv h) (Rw : RW sr sz cl h) (hI : RI sr sz) (hq : ∀ v9 N9 h9, v9 = paV sr sz cl N s → N9 = paN sr sz cl N s → QR 1 N9 tx lk mv h9 → am_fp (fun k => k < 1 ∨ 13 ≤ k) h9 h → Q (some (.int v9)) n h9) : AW X mX7_pour (d + 12) rc rs 0 [some (.ref 0), some (.int s), none, none, none, none] [] n h Q := by
  refine aw_iload_n (npc := 1) rfl dX7_pour_0 rfl ?_
  refine aw_callS (npc := 4) (N := mX7_isSheet) (mc := 0) (ms := 0) (A := [.int s]) (S := []) (L0 := [some (.int s)]) dX7_pour_1 rfl km_X7_isSheet kk_X7_204 rfl ⟨rfl, by decide⟩ rfl (Nat.le_of_ble_eq_true rfl) (Nat.zero_add _) (Nat.zero_add _) rfl ?_
  refine c_X7_isSheet (fun hw1 => ?_) (fun hw1 => ?_)
  · obtain ⟨sn, hsn, esn⟩ := wi_nI (H := 3) (by decide) (by decide) hw1
    subst esn
    have fsn : fN (nI sn) = sn := fN_nI (by omega)
    obtain ⟨hsr, z9, hz24, ez9⟩ := hI sn (by omega)
    have fz9 : fN (nI z9) = z9 := fN_nI (by omega)
    refine aw_re (S' := [.int 1]) rfl ?_
    refine aw_if_ne (npc := 7) (tgt := 10) dX7_pour_4 rfl (by decide) (fun _ => ?_) (fun hc => absurd hc (by decide))
    refine aw_aload_n (npc := 11) rfl dX7_pour_10 rfl ?_
    refine aw_get (npc := 14) dX7_pour_11 rfl kf_X7_47 O.1 rfl ?_
    refine aw_iload_n (npc := 15) rfl dX7_pour_14 rfl ?_
    refine aw_aald (npc := 16) (j := sn) dX7_pour_15 rfl (by decide) O.2.1 (am_ix_nI (by omega)) (sh_at (by omega)) ?_
    refine aw_astore_n (npc := 17) (L' := [some (.ref 0), some (.int (nI sn)), some (.ref (46 + 2 * sn)), none, none, none]) dX7_pour_16 rfl (by decide) rfl rfl ?_
    refine aw_aload_n (npc := 18) rfl dX7_pour_17 rfl ?_
    refine aw_callV (npc := 21) (N := mX2_isMissing) (b := 46 + 2 * sn) (mc := 0) (ms := 0) (A := []) (S := []) (L0 := [some (.ref (46 + 2 * sn))]) dX7_pour_18 rfl km_X2_isMissing kk_X7_207 (Rw sn (by omega)).1 ⟨by decide, rfl⟩ rfl ⟨rfl, by decide⟩ rfl (Nat.le_of_ble_eq_true rfl) (Nat.zero_add _) (Nat.zero_add _) rfl ?_
    refine aw_aload_n (npc := 1) rfl dX2_isMissing_0 rfl ?_
    refine aw_get (npc := 4) dX2_isMissing_1 rfl kf_X2_9 (Rw sn (by omega)).1 rfl ?_
    rcases wi_cm1_1 hsr with esr | esr | esr
    · refine aw_top (y := -1) esr ?_
      refine aw_iconst (npc := 5) (v := -1) (by decide) dX2_isMissing_4 rfl ?_
      refine aw_icmp_ne (npc := 8) (tgt := 12) dX2_isMissing_5 rfl (by decide) (fun hc => absurd (by decide) hc) (fun _ => ?_)
      refine aw_iconst (npc := 9) (v := 1) (by decide) dX2_isMissing_8 rfl ?_
      refine aw_goto (npc := 13) dX2_isMissing_9 (by decide) ?_
      refine aw_zret rfl rfl dX2_isMissing_13 ?_
      refine aw_re (S' := [.int 1]) rfl ?_
      refine aw_if_eq (npc := 24) (tgt := 27) dX7_pour_21 rfl (by decide) (fun hc => absurd hc (by decide)) (fun _ => ?_)
      refine aw_ldc (npc := 26) kc_X7_210 dX7_pour_24 rfl ?_
      refine aw_iret rfl dX7_pour_26 ?_
      exact hq _ _ _ (by simp [paV, paN, cI, hw1, fsn, esr]) (by simp [paV, paN, cI, hw1, fsn, esr]) F am_fp0
    · refine aw_top (y := 0) esr ?_
      refine aw_iconst (npc := 5) (v := -1) (by decide) dX2_isMissing_4 rfl ?_
      refine aw_icmp_ne (npc := 8) (tgt := 12) dX2_isMissing_5 rfl (by decide) (fun _ => ?_) (fun hc => absurd hc (by decide))
      refine aw_iconst (npc := 13) (v := 0) (by decide) dX2_isMissing_12 rfl ?_
      refine aw_zret rfl rfl dX2_isMissing_13 ?_
      refine aw_re (S' := [.int 0]) rfl ?_
      refine aw_if_eq (npc := 24) (tgt := 27) dX7_pour_21 rfl (by decide) (fun _ => ?_) (fun hc => absurd (by decide) hc)
      refine aw_iconst (npc := 28) (v := 0) (by decide) dX7_pour_27 rfl ?_
      refine aw_istore_n (npc := 29) (L' := [some (.ref 0), some (.int (nI sn)), some (.ref (46 + 2 * sn)), some (.int 0), none, none]) dX7_pour_28 rfl (by decide) rfl rfl ?_
      refine aw_iconst (npc := 30) (v := 0) (by decide) dX7_pour_29 rfl ?_
      refine aw_istore (npc := 32) (L' := [some (.ref 0), some (.int (nI sn)), some (.ref (46 + 2 * sn)), some (.int 0), some (.int 0), none]) dX7_pour_30 rfl (by decide) rfl rfl ?_
      refine aw_locs (L' := [some (.ref 0), some (.int (nI sn)), some (.ref (46 + 2 * sn)), some (.int 0), some (.int (nI 0)), none]) rfl ?_
      refine C_pourL (s := sn) (z := z9) (by omega) hz24 ez9 4 0 (by omega) N 0 none h O F Rw (fun N9 c9 w9 h9 E9 F9 f9 => ?_)
      refine aw_iload_n (npc := 98) rfl dX7_pour_97 rfl ?_
      refine aw_iret rfl dX7_pour_98 ?_
      exact hq _ _ _ (by simp [paV, paN, cI, hw1, fsn, esr, ez9, fz9, ← E9]) (by simp [paV, paN, cI, hw1, fsn, esr, ez9, fz9, ← E9]) F9 f9
    · refine aw_top (y := 1) esr ?_
      refine aw_iconst (npc := 5) (v := -1) (by decide) dX2_isMissing_4 rfl ?_
      refine aw_icmp_ne (npc := 8) (tgt := 12) dX2_isMissing_5 rfl (by decide) (fun _ => ?_) (fun hc => absurd hc (by decide))
      refine aw_iconst (npc := 13) (v := 0) (by decide) dX2_isMissing_12 rfl ?_
      refine aw_zret rfl rfl dX2_isMissing_13 ?_
      refine aw_re (S' := [.int 0]) rfl ?_
      refine aw_if_eq (npc := 24) (tgt := 27) dX7_pour_21 rfl (by decide) (fun _ => ?_) (fun hc => absurd (by decide) hc)
      refine aw_iconst (npc := 28) (v := 0) (by decide) dX7_pour_27 rfl ?_
      refine aw_istore_n (npc := 29) (L' := [some (.ref 0), some (.int (nI sn)), some (.ref (46 + 2 * sn)), some (.int 0), none, none]) dX7_pour_28 rfl (by decide) rfl rfl ?_
      refine aw_iconst (npc := 30) (v := 0) (by decide) dX7_pour_29 rfl ?_
      refine aw_istore (npc := 32) (L' := [some (.ref 0), some (.int (nI sn)), some (.ref (46 + 2 * sn)), some (.int 0), some (.int 0), none]) dX7_pour_30 rfl (by decide) rfl rfl ?_
      refine aw_locs (L' := [some (.ref 0), some (.int (nI sn)), some (.ref (46 + 2 * sn)), some (.int 0), some (.int (nI 0)), none]) rfl ?_
      refine C_pourL (s := sn) (z := z9) (by omega) hz24 ez9 4 0 (by omega) N 0 none h O F Rw (fun N9 c9 w9 h9 E9 F9 f9 => ?_)
      refine aw_iload_n (npc := 98) rfl dX7_pour_97 rfl ?_
      refine aw_iret rfl dX7_pour_98 ?_
      exact hq _ _ _ (by simp [paV, paN, cI, hw1, fsn, esr, ez9, fz9, ← E9]) (by simp [paV, paN, cI, hw1, fsn, esr, ez9, fz9, ← E9]) F9 f9
  · refine aw_re (S' := [.int 0]) rfl ?_
    refine aw_if_ne (npc := 7) (tgt := 10) dX7_pour_4 rfl (by decide) (fun hc => absurd (by decide) hc) (fun _ => ?_)
    refine aw_ldc (npc := 9) kc_X7_78 dX7_pour_7 rfl ?_
    refine aw_iret rfl dX7_pour_9 ?_
    exact hq _ _ _ (by simp [paV, paN, cI, hw1]) (by simp [paV, paN, cI, hw1]) F am_fp0
set_option maxHeartbeats 4000000 in
set_option maxRecDepth 100000 in
theorem M_pourL {X : List Int32} {d rc rs n : Nat} {Q : am_Q} {o : Nat → Int32} {a : Nat → Nat → Int32} {s z : Nat} (hs : s < 4) (hz : z ≤ 24) (ez : a 84 s = nI z) : ∀ (m t : Nat), t + m = 4 → ∀ (N : Nat → Int32) (c : Int32) (v4 v5 : Option Value) (h : am_H), MR o N a h → (∀ N9 c9 w4 w5 t9 h9, (N9, c9) = poM z (a 85) s m t (N, c) → MR o N9 a h9 → am_fp (fun k => k < 69 ∨ 92 ≤ k) h9 h → AW X mX8_pour (d + 12) rc rs 112 [some (.ref 69), some (.int (nI s)), some (.int c9), t9, w4, w5] [] n h9 Q) → AW X mX8_pour (d + 12) rc rs 26 [some (.ref 69), some (.int (nI s)), some (.int c), some (.int (nI t)), v4, v5] [] n h Q := by
  intro m
  induction m with
  | zero =>
    intro t ht N c v4 v5 h F hq
    obtain rfl : t = 4 := by omega
    refine aw_iload_n (npc := 27) rfl dX8_pour_26 rfl ?_
    refine aw_aload_n (npc := 28) rfl dX8_pour_27 rfl ?_
    refine aw_get (npc := 31) dX8_pour_28 rfl kf_X8_58 F.1 rfl ?_
    refine aw_iload_n (npc := 32) rfl dX8_pour_31 rfl ?_
    refine aw_iald (npc := 33) (x := (a 84) s) (j := s) dX8_pour_32 rfl F.2.2.2.2.2.2.2.2.2.2.2.2.2.2.2.1 (am_ix_nI (by omega)) (tl_at (by omega)) ?_
    refine aw_top (y := nI z) (ez) ?_
    refine aw_icmp_ge (npc := 36) (tgt := 112) dX8_pour_33 rfl (by decide) (fun hc1 => ?_) (fun hc1 => ?_)
    · have hc1N := (nI_leI (a := z) (b := 4) (by omega) (by omega)).mp hc1
      exact hq N c _ _ _ h rfl F am_fp0
    · have hc1N : ¬ z ≤ 4 := fun z9q => hc1 ((nI_leI (a := z) (b := 4) (by omega) (by omega)).mpr z9q)
      refine aw_iload_n (npc := 37) rfl dX8_pour_36 rfl ?_
      refine aw_iconst (npc := 38) (v := 4) (by decide) dX8_pour_37 rfl ?_
      refine aw_icmp_ge (npc := 41) (tgt := 112) dX8_pour_38 rfl (by decide) (fun _ => ?_) (fun hc => absurd (nI_le (a := 4) (b := 4) (by omega) (by omega)) hc)
      exact hq N c _ _ _ h rfl F am_fp0
  | succ m ih =>
    intro t ht N c v4 v5 h F hq
    refine aw_iload_n (npc := 27) rfl dX8_pour_26 rfl ?_
    refine aw_aload_n (npc := 28) rfl dX8_pour_27 rfl ?_
    refine aw_get (npc := 31) dX8_pour_28 rfl kf_X8_58 F.1 rfl ?_
    refine aw_iload_n (npc := 32) rfl dX8_pour_31 rfl ?_
    refine aw_iald (npc := 33) (x := (a 84) s) (j := s) dX8_pour_32 rfl F.2.2.2.2.2.2.2.2.2.2.2.2.2.2.2.1 (am_ix_nI (by omega)) (tl_at (by omega)) ?_
    refine aw_top (y := nI z) (ez) ?_
    refine aw_icmp_ge (npc := 36) (tgt := 112) dX8_pour_33 rfl (by decide) (fun hc1 => ?_) (fun hc1 => ?_)
    · have hc1N := (nI_leI (a := z) (b := t) (by omega) (by omega)).mp hc1
      exact hq N c _ _ _ h (poM_id _ _ _ (by omega)).symm F am_fp0
    · have hc1N : ¬ z ≤ t := fun z9q => hc1 ((nI_leI (a := z) (b := t) (by omega) (by omega)).mpr z9q)
      refine aw_iload_n (npc := 37) rfl dX8_pour_36 rfl ?_
      refine aw_iconst (npc := 38) (v := 4) (by decide) dX8_pour_37 rfl ?_
      refine aw_icmp_ge (npc := 41) (tgt := 112) dX8_pour_38 rfl (by decide) (fun hc => absurd hc (nI_ge (a := t) (b := 4) (by omega) (by omega))) (fun _ => ?_)
      refine aw_aload_n (npc := 42) rfl dX8_pour_41 rfl ?_
      refine aw_get (npc := 45) dX8_pour_42 rfl kf_X8_61 F.1 rfl ?_
      refine aw_bipush (npc := 47) (v := 24) (by decide) dX8_pour_45 rfl ?_
      refine aw_iload_n (npc := 48) rfl dX8_pour_47 rfl ?_
      refine aw_imulV (npc := 49) (v := nI (24 * s)) dX8_pour_48 rfl (pk_mul 24 _) ?_
      refine aw_iload_n (npc := 50) rfl dX8_pour_49 rfl ?_
      refine aw_iaddV (npc := 51) (v := nI ((24 * s) + t)) dX8_pour_50 rfl (nI_add _ _) ?_
      refine aw_iald (npc := 52) (x := (a 85) ((24 * s) + t)) (j := ((24 * s) + t)) dX8_pour_51 rfl F.2.2.2.2.2.2.2.2.2.2.2.2.2.2.2.2.1 (am_ix_nI (by omega)) (tl_at (by omega)) ?_
      refine aw_istore (npc := 54) (L' := [some (.ref 69), some (.int (nI s)), some (.int c), some (.int (nI t)), some (.int ((a 85) ((24 * s) + t))), v5]) dX8_pour_52 rfl (by decide) rfl rfl ?_
      refine aw_iload (npc := 56) rfl dX8_pour_54 rfl ?_
      refine aw_ldc (npc := 58) kc_X8_82 dX8_pour_56 rfl ?_
      refine aw_icmp_ne (npc := 61) (tgt := 73) dX8_pour_58 rfl (by decide) (fun hc3 => ?_) (fun hc3 => ?_)
      · refine aw_iload (npc := 75) rfl dX8_pour_73 rfl ?_
        refine aw_iconst (npc := 76) (v := 0) (by decide) dX8_pour_75 rfl ?_
        refine aw_bipush (npc := 78) (v := 9) (by decide) dX8_pour_76 rfl ?_
        refine aw_callS (npc := 81) (N := mX8_within) (mc := 0) (ms := 0) (A := [.int ((a 85) ((24 * s) + t)), .int 0, .int 9]) (S := []) (L0 := [some (.int ((a 85) ((24 * s) + t))), some (.int 0), some (.int 9)]) dX8_pour_78 rfl km_X8_within kk_X8_108 rfl ⟨rfl, by decide⟩ rfl (Nat.le_of_ble_eq_true rfl) (Nat.zero_add _) (Nat.zero_add _) rfl ?_
        refine m_within ?_
        refine aw_re (S' := [.int (wn ((a 85) ((24 * s) + t)) 0 9)]) rfl ?_
        refine aw_top (y := hw ((a 85) ((24 * s) + t)) 9) (wn_hw _ _) ?_
        refine aw_istore (npc := 83) (L' := [some (.ref 69), some (.int (nI s)), some (.int c), some (.int (nI t)), some (.int ((a 85) ((24 * s) + t))), some (.int (hw ((a 85) ((24 * s) + t)) 9))]) dX8_pour_81 rfl (by decide) rfl rfl ?_
        refine aw_iload_n (npc := 84) rfl dX8_pour_83 rfl ?_
        refine aw_aload_n (npc := 85) rfl dX8_pour_84 rfl ?_
        refine aw_bipush (npc := 87) (v := 8) (by decide) dX8_pour_85 rfl ?_
        refine aw_iload_n (npc := 88) rfl dX8_pour_87 rfl ?_
        refine aw_iaddV (npc := 89) (v := nI (8 + t)) dX8_pour_88 rfl (nI_add 8 _) ?_
        refine aw_iload (npc := 91) rfl dX8_pour_89 rfl ?_
        refine aw_callV (npc := 94) (N := mX8_becomes) (b := 69) (mc := 0) (ms := 0) (A := [.int (nI (8 + t)), .int (hw ((a 85) ((24 * s) + t)) 9)]) (S := [.int c]) (L0 := [some (.ref 69), some (.int (nI (8 + t))), some (.int (hw ((a 85) ((24 * s) + t)) 9)), none]) dX8_pour_91 rfl km_X8_becomes kk_X8_135 F.1 ⟨by decide, rfl⟩ rfl ⟨rfl, by decide⟩ rfl (Nat.le_of_ble_eq_true rfl) (Nat.zero_add _) (Nat.zero_add _) rfl ?_
        refine m_becomes (j := (8 + t)) (v := hw ((a 85) ((24 * s) + t)) 9) F (by omega) (fun hp6 F4 fb5 => ?_)
        refine aw_re (S' := [.int (N (8 + t)), .int c]) rfl ?_
        refine aw_iload (npc := 96) rfl dX8_pour_94 rfl ?_
        refine aw_icmp_ne (npc := 99) (tgt := 103) dX8_pour_96 rfl (by decide) (fun hc7 => ?_) (fun hc7 => ?_)
        · refine aw_iconst (npc := 104) (v := 1) (by decide) dX8_pour_103 rfl ?_
          refine aw_iadd (npc := 105) dX8_pour_104 rfl ?_
          refine aw_istore_n (npc := 106) (L' := [some (.ref 69), some (.int (nI s)), some (.int (c + 1)), some (.int (nI t)), some (.int ((a 85) ((24 * s) + t))), some (.int (hw ((a 85) ((24 * s) + t)) 9))]) dX8_pour_105 rfl (by decide) rfl rfl ?_
          refine aw_iinc (npc := 109) (v := nI (t + 1)) (L' := [some (.ref 69), some (.int (nI s)), some (.int (c + 1)), some (.int (nI (t + 1))), some (.int ((a 85) ((24 * s) + t))), some (.int (hw ((a 85) ((24 * s) + t)) 9))]) dX8_pour_106 rfl rfl (nI_1 _) (by decide) rfl rfl ?_
          refine aw_goto (npc := 26) dX8_pour_109 (by decide) ?_
          have e9 : poS z (a 85) s t (N, c) = (upd N (8 + t) (hw ((a 85) ((24 * s) + t)) 9), c + 1) := by simp [poS, (show t < z by omega), hc3, (show ¬ hw (a 85 (24 * s + t)) 9 = N (8 + t) from fun q => hc7 q.symm)]
          exact ih (t + 1) (by omega) _ _ _ _ _ F4 (fun N9 c9 w4 w5 t9 h9 E9 F9 fz => hq N9 c9 w4 w5 t9 h9 (E9.trans (congrArg (poM z (a 85) s m (t + 1)) e9.symm)) F9 (am_fpT fz (am_fpT (fun k (hk : k < 69 ∨ 92 ≤ k) => fb5 k (by omega)) am_fp0)))
        · refine aw_iconst (npc := 100) (v := 0) (by decide) dX8_pour_99 rfl ?_
          refine aw_goto (npc := 104) dX8_pour_100 (by decide) ?_
          refine aw_iaddV (npc := 105) (v := c) dX8_pour_104 rfl (Int32.add_zero _) ?_
          refine aw_istore_n (npc := 106) (L' := [some (.ref 69), some (.int (nI s)), some (.int c), some (.int (nI t)), some (.int ((a 85) ((24 * s) + t))), some (.int (hw ((a 85) ((24 * s) + t)) 9))]) dX8_pour_105 rfl (by decide) rfl rfl ?_
          refine aw_iinc (npc := 109) (v := nI (t + 1)) (L' := [some (.ref 69), some (.int (nI s)), some (.int c), some (.int (nI (t + 1))), some (.int ((a 85) ((24 * s) + t))), some (.int (hw ((a 85) ((24 * s) + t)) 9))]) dX8_pour_106 rfl rfl (nI_1 _) (by decide) rfl rfl ?_
          refine aw_goto (npc := 26) dX8_pour_109 (by decide) ?_
          have e9 : poS z (a 85) s t (N, c) = (N, c) := by simp [poS, (show t < z by omega), hc3, hc7.symm]
          have F9 : MR o N a _ := (show upd N (8 + t) (hw (a 85 (24 * s + t)) 9) = N from hc7 ▸ upd_id) ▸ F4
          exact ih (t + 1) (by omega) _ _ _ _ _ F9 (fun N9 c9 w4 w5 t9 h9 E9 F9 fz => hq N9 c9 w4 w5 t9 h9 (E9.trans (congrArg (poM z (a 85) s m (t + 1)) e9.symm)) F9 (am_fpT fz (am_fpT (fun k (hk : k < 69 ∨ 92 ≤ k) => fb5 k (by omega)) am_fp0)))
      · refine aw_aload_n (npc := 62) rfl dX8_pour_61 rfl ?_
        refine aw_get (npc := 65) dX8_pour_62 rfl kf_X8_9 F.1 rfl ?_
        refine aw_bipush (npc := 67) (v := 8) (by decide) dX8_pour_65 rfl ?_
        refine aw_iload_n (npc := 68) rfl dX8_pour_67 rfl ?_
        refine aw_iaddV (npc := 69) (v := nI (8 + t)) dX8_pour_68 rfl (nI_add 8 _) ?_
        refine aw_iald (npc := 70) (x := N (8 + t)) (j := (8 + t)) dX8_pour_69 rfl F.2.1 (am_ix_nI (by omega)) (tl_at (by omega)) ?_
        refine aw_goto (npc := 81) dX8_pour_70 (by decide) ?_
        refine aw_istore (npc := 83) (L' := [some (.ref 69), some (.int (nI s)), some (.int c), some (.int (nI t)), some (.int ((a 85) ((24 * s) + t))), some (.int (N (8 + t)))]) dX8_pour_81 rfl (by decide) rfl rfl ?_
        refine aw_iload_n (npc := 84) rfl dX8_pour_83 rfl ?_
        refine aw_aload_n (npc := 85) rfl dX8_pour_84 rfl ?_
        refine aw_bipush (npc := 87) (v := 8) (by decide) dX8_pour_85 rfl ?_
        refine aw_iload_n (npc := 88) rfl dX8_pour_87 rfl ?_
        refine aw_iaddV (npc := 89) (v := nI (8 + t)) dX8_pour_88 rfl (nI_add 8 _) ?_
        refine aw_iload (npc := 91) rfl dX8_pour_89 rfl ?_
        refine aw_callV (npc := 94) (N := mX8_becomes) (b := 69) (mc := 0) (ms := 0) (A := [.int (nI (8 + t)), .int (N (8 + t))]) (S := [.int c]) (L0 := [some (.ref 69), some (.int (nI (8 + t))), some (.int (N (8 + t))), none]) dX8_pour_91 rfl km_X8_becomes kk_X8_135 F.1 ⟨by decide, rfl⟩ rfl ⟨rfl, by decide⟩ rfl (Nat.le_of_ble_eq_true rfl) (Nat.zero_add _) (Nat.zero_add _) rfl ?_
        refine m_becomes (j := (8 + t)) (v := N (8 + t)) F (by omega) (fun hp12 F10 fb11 => ?_)
        refine aw_re (S' := [.int (N (8 + t)), .int c]) rfl ?_
        refine aw_iload (npc := 96) rfl dX8_pour_94 rfl ?_
        refine aw_icmp_ne (npc := 99) (tgt := 103) dX8_pour_96 rfl (by decide) (fun hc => absurd (rfl) hc) (fun _ => ?_)
        refine aw_iconst (npc := 100) (v := 0) (by decide) dX8_pour_99 rfl ?_
        refine aw_goto (npc := 104) dX8_pour_100 (by decide) ?_
        refine aw_iaddV (npc := 105) (v := c) dX8_pour_104 rfl (Int32.add_zero _) ?_
        refine aw_istore_n (npc := 106) (L' := [some (.ref 69), some (.int (nI s)), some (.int c), some (.int (nI t)), some (.int ((a 85) ((24 * s) + t))), some (.int (N (8 + t)))]) dX8_pour_105 rfl (by decide) rfl rfl ?_
        refine aw_iinc (npc := 109) (v := nI (t + 1)) (L' := [some (.ref 69), some (.int (nI s)), some (.int c), some (.int (nI (t + 1))), some (.int ((a 85) ((24 * s) + t))), some (.int (N (8 + t)))]) dX8_pour_106 rfl rfl (nI_1 _) (by decide) rfl rfl ?_
        refine aw_goto (npc := 26) dX8_pour_109 (by decide) ?_
        have e9 : poS z (a 85) s t (N, c) = (N, c) := by simp [poS, (show t < z by omega), hc3]
        have F14 : MR o N a _ := upd_id ▸ F10
        exact ih (t + 1) (by omega) _ _ _ _ _ F14 (fun N9 c9 w4 w5 t9 h9 E9 F9 fz => hq N9 c9 w4 w5 t9 h9 (E9.trans (congrArg (poM z (a 85) s m (t + 1)) e9.symm)) F9 (am_fpT fz (am_fpT (fun k (hk : k < 69 ∨ 92 ≤ k) => fb11 k (by omega)) am_fp0)))
set_option maxHeartbeats 4000000 in
set_option maxRecDepth 100000 in
theorem M_pour {X : List Int32} {d rc rs n : Nat} {Q : am_Q} {h : am_H} {o N : Nat → Int32} {a : Nat → Nat → Int32} {fr c : Nat} {s : Int32} (F : MR o N a h) (hI : RI (a 83) (a 84)) (hq : ∀ v9 N9 h9, v9 = paV (a 83) (a 84) (a 85) N s → N9 = paN (a 83) (a 84) (a 85) N s → MR o N9 a h9 → am_fp (fun k => k < 69 ∨ 92 ≤ k) h9 h → Q (some (.int v9)) n h9) : AW X mX8_pour (d + 12) rc rs 0 [some (.ref 69), some (.int s), none, none, none, none] [] n h Q := by
  refine aw_iload_n (npc := 1) rfl dX8_pour_0 rfl ?_
  refine aw_callS (npc := 4) (N := mX8_isSheet) (mc := 0) (ms := 0) (A := [.int s]) (S := []) (L0 := [some (.int s)]) dX8_pour_1 rfl km_X8_isSheet kk_X8_184 rfl ⟨rfl, by decide⟩ rfl (Nat.le_of_ble_eq_true rfl) (Nat.zero_add _) (Nat.zero_add _) rfl ?_
  refine c_X8_isSheet (fun hw1 => ?_) (fun hw1 => ?_)
  · obtain ⟨sn, hsn, esn⟩ := wi_nI (H := 3) (by decide) (by decide) hw1
    subst esn
    have fsn : fN (nI sn) = sn := fN_nI (by omega)
    obtain ⟨hsr, z9, hz24, ez9⟩ := hI sn (by omega)
    have fz9 : fN (nI z9) = z9 := fN_nI (by omega)
    refine aw_re (S' := [.int 1]) rfl ?_
    refine aw_if_ne (npc := 7) (tgt := 10) dX8_pour_4 rfl (by decide) (fun _ => ?_) (fun hc => absurd hc (by decide))
    refine aw_aload_n (npc := 11) rfl dX8_pour_10 rfl ?_
    refine aw_get (npc := 14) dX8_pour_11 rfl kf_X8_55 F.1 rfl ?_
    refine aw_iload_n (npc := 15) rfl dX8_pour_14 rfl ?_
    refine aw_iald (npc := 16) (x := (a 83) sn) (j := sn) dX8_pour_15 rfl F.2.2.2.2.2.2.2.2.2.2.2.2.2.2.1 (am_ix_nI (by omega)) (tl_at (by omega)) ?_
    rcases wi_cm1_1 hsr with esr | esr | esr
    · refine aw_top (y := -1) esr ?_
      refine aw_if_ge (npc := 19) (tgt := 22) dX8_pour_16 rfl (by decide) (fun hc => absurd hc (by decide)) (fun _ => ?_)
      refine aw_ldc (npc := 21) kc_X8_187 dX8_pour_19 rfl ?_
      refine aw_iret rfl dX8_pour_21 ?_
      exact hq _ _ _ (by simp [paV, paN, cI, hw1, fsn, esr]) (by simp [paV, paN, cI, hw1, fsn, esr]) F am_fp0
    · refine aw_top (y := 0) esr ?_
      refine aw_if_ge (npc := 19) (tgt := 22) dX8_pour_16 rfl (by decide) (fun _ => ?_) (fun hc => absurd (by decide) hc)
      refine aw_iconst (npc := 23) (v := 0) (by decide) dX8_pour_22 rfl ?_
      refine aw_istore_n (npc := 24) (L' := [some (.ref 69), some (.int (nI sn)), some (.int 0), none, none, none]) dX8_pour_23 rfl (by decide) rfl rfl ?_
      refine aw_iconst (npc := 25) (v := 0) (by decide) dX8_pour_24 rfl ?_
      refine aw_istore_n (npc := 26) (L' := [some (.ref 69), some (.int (nI sn)), some (.int 0), some (.int 0), none, none]) dX8_pour_25 rfl (by decide) rfl rfl ?_
      refine aw_locs (L' := [some (.ref 69), some (.int (nI sn)), some (.int 0), some (.int (nI 0)), none, none]) rfl ?_
      refine M_pourL (s := sn) (z := z9) (by omega) hz24 ez9 4 0 (by omega) N 0 none none h F (fun N9 c9 w4 w5 t9 h9 E9 F9 f9 => ?_)
      refine aw_iload_n (npc := 113) rfl dX8_pour_112 rfl ?_
      refine aw_iret rfl dX8_pour_113 ?_
      exact hq _ _ _ (by simp [paV, paN, cI, hw1, fsn, esr, ez9, fz9, ← E9]) (by simp [paV, paN, cI, hw1, fsn, esr, ez9, fz9, ← E9]) F9 f9
    · refine aw_top (y := 1) esr ?_
      refine aw_if_ge (npc := 19) (tgt := 22) dX8_pour_16 rfl (by decide) (fun _ => ?_) (fun hc => absurd (by decide) hc)
      refine aw_iconst (npc := 23) (v := 0) (by decide) dX8_pour_22 rfl ?_
      refine aw_istore_n (npc := 24) (L' := [some (.ref 69), some (.int (nI sn)), some (.int 0), none, none, none]) dX8_pour_23 rfl (by decide) rfl rfl ?_
      refine aw_iconst (npc := 25) (v := 0) (by decide) dX8_pour_24 rfl ?_
      refine aw_istore_n (npc := 26) (L' := [some (.ref 69), some (.int (nI sn)), some (.int 0), some (.int 0), none, none]) dX8_pour_25 rfl (by decide) rfl rfl ?_
      refine aw_locs (L' := [some (.ref 69), some (.int (nI sn)), some (.int 0), some (.int (nI 0)), none, none]) rfl ?_
      refine M_pourL (s := sn) (z := z9) (by omega) hz24 ez9 4 0 (by omega) N 0 none none h F (fun N9 c9 w4 w5 t9 h9 E9 F9 f9 => ?_)
      refine aw_iload_n (npc := 113) rfl dX8_pour_112 rfl ?_
      refine aw_iret rfl dX8_pour_113 ?_
      exact hq _ _ _ (by simp [paV, paN, cI, hw1, fsn, esr, ez9, fz9, ← E9]) (by simp [paV, paN, cI, hw1, fsn, esr, ez9, fz9, ← E9]) F9 f9
  · refine aw_re (S' := [.int 0]) rfl ?_
    refine aw_if_ne (npc := 7) (tgt := 10) dX8_pour_4 rfl (by decide) (fun hc => absurd (by decide) hc) (fun _ => ?_)
    refine aw_ldc (npc := 9) kc_X8_91 dX8_pour_7 rfl ?_
    refine aw_iret rfl dX8_pour_9 ?_
    exact hq _ _ _ (by simp [paV, paN, cI, hw1]) (by simp [paV, paN, cI, hw1]) F am_fp0
