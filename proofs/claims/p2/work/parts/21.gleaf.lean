def am_fb (lo hi : Nat) (h' h : am_H) : Prop := ∀ k, (k < lo ∨ hi ≤ k) → h' k = h k
theorem am_fb0 {lo hi : Nat} {h : am_H} : am_fb lo hi h h := fun _ _ => rfl
theorem am_fbU {lo hi a : Nat} {h h' : am_H} {c : am_AC} (ha : lo ≤ a ∧ a < hi) (hf : am_fb lo hi h' h) : am_fb lo hi (am_up h' a c) h := fun k hk => by
  rw [am_nE (by omega)]
  exact hf k hk
theorem am_fbT {lo hi : Nat} {h h' h'' : am_H} (h1 : am_fb lo hi h'' h') (h2 : am_fb lo hi h' h) : am_fb lo hi h'' h := fun k hk => (h1 k hk).trans (h2 k hk)
theorem am_fbW {lo hi lo' hi' : Nat} {h h' : am_H} (hl : lo' ≤ lo ∧ hi ≤ hi') (h1 : am_fb lo hi h' h) : am_fb lo' hi' h' h := fun k hk => h1 k (by omega)
def hs0 (N : Nat → Int32) : Int32 := 0 + N 12 * N 8 + N 13 * N 9 + N 14 * N 10 + N 15 * N 11
def hs1 (N : Nat → Int32) : Int32 := 0 + N 16 * (9 - N 8) + N 17 * (9 - N 9) + N 18 * (9 - N 10) + N 19 * (9 - N 11)
def peace (N : Nat → Int32) : Prop := ¬ hs0 N < N 20 ∧ ¬ hs1 N < N 21
def duel (N : Nat → Int32) : Prop := ¬ N 3 < N 4
def snum (N : Nat → Int32) : Int32 := (((0 * 10 + N 8) * 10 + N 9) * 10 + N 10) * 10 + N 11
def drawZ (N : Nat → Int32) : Int32 := N 0 * 1103515245 + 12345
def drawN (N : Nat → Int32) : Nat → Int32 := upd N 0 (drawZ N)
def drawV (N : Nat → Int32) : Int32 := ((drawZ N).toUInt32 >>> (Int32.toUInt32 8 &&& Int32.toUInt32 31)).toInt32
def addN (N : Nat → Int32) (f : Nat) (k s p : Int32) : Nat → Int32 := upd (upd (upd (upd (upd (upd N (22 + 5 * f) k) (23 + 5 * f) s) (24 + 5 * f) p) (25 + 5 * f) 0) (26 + 5 * f) 0) 1 (nI (f + 1))
set_option maxHeartbeats 4000000 in
set_option maxRecDepth 100000 in
theorem g_isFriend {X : List Int32} {d rc rs n : Nat} {Q : am_Q} {b : Nat} {N : Nat → Int32} {tx : List Value} {lk mv : Nat → Int32} {h : am_H} {f : Int32} (F : QR b N tx lk mv h) (k1 : wi f 0 (N 1 - 1) → Q (some (.int 1)) n h) (k0 : ¬ wi f 0 (N 1 - 1) → Q (some (.int 0)) n h) : AW X mX0_isFriend (d + 2) rc rs 0 [some (.ref b), some (.int f)] [] n h Q := by
  refine aw_iload_n (npc := 1) rfl dX0_isFriend_0 rfl ?_
  refine aw_iconst (npc := 2) (v := 0) (by decide) dX0_isFriend_1 rfl ?_
  refine aw_aload_n (npc := 3) rfl dX0_isFriend_2 rfl ?_
  refine aw_get (npc := 6) dX0_isFriend_3 rfl kf_X0_40 F.1 rfl ?_
  refine aw_iconst (npc := 7) (v := 1) (by decide) dX0_isFriend_6 rfl ?_
  refine aw_isub (npc := 8) dX0_isFriend_7 rfl ?_
  refine aw_callSN (npc := 11) (N := mX7_within) (mc := 0) (ms := 0) (A := [.int f, .int 0, .int ((N 1) - 1)]) (S := []) (L0 := [some (.int f), some (.int 0), some (.int ((N 1) - 1))]) dX0_isFriend_8 rfl km_X7_within kk_X0_79 rfl ⟨rfl, by decide⟩ rfl (Nat.le_of_ble_eq_true rfl) (Nat.zero_add _) (Nat.zero_add _) rfl ?_
  refine c_X7_within (fun hw1 => ?_) (fun hw1 => ?_)
  · refine aw_re (S' := [.int 1]) rfl ?_
    refine aw_zret rfl rfl dX0_isFriend_11 ?_
    exact k1 hw1
  · refine aw_re (S' := [.int 0]) rfl ?_
    refine aw_zret rfl rfl dX0_isFriend_11 ?_
    exact k0 hw1
set_option maxHeartbeats 4000000 in
set_option maxRecDepth 100000 in
theorem g_draw {X : List Int32} {d rc rs n : Nat} {Q : am_Q} {b : Nat} {N : Nat → Int32} {tx : List Value} {lk mv : Nat → Int32} {h : am_H} (F : QR b N tx lk mv h) (hq : ∀ h9, QR b (drawN N) tx lk mv h9 → am_fb b (b + 12) h9 h → Q (some (.int (drawV N))) n h9) : AW X mX0_draw (d + 0) rc rs 0 [some (.ref b)] [] n h Q := by
  refine aw_aload_n (npc := 1) rfl dX0_draw_0 rfl ?_
  refine aw_aload_n (npc := 2) rfl dX0_draw_1 rfl ?_
  refine aw_get (npc := 5) dX0_draw_2 rfl kf_X0_37 F.1 rfl ?_
  refine aw_ldc (npc := 7) kc_X0_86 dX0_draw_5 rfl ?_
  refine aw_imul (npc := 8) dX0_draw_7 rfl ?_
  refine aw_sipush (npc := 11) (v := 12345) (by decide) dX0_draw_8 rfl ?_
  refine aw_iadd (npc := 12) dX0_draw_11 rfl ?_
  refine aw_put (npc := 15) dX0_draw_12 rfl kf_X0_37 F.1 (Nat.le_of_ble_eq_true rfl) (am_ok_int _) rfl ?_
  have F1 := qr_z (v := ((N 0) * 1103515245) + 12345) F
  refine aw_aload_n (npc := 16) rfl dX0_draw_15 rfl ?_
  refine aw_get (npc := 19) dX0_draw_16 rfl kf_X0_37 F1.1 rfl ?_
  refine aw_top (y := ((N 0) * 1103515245) + 12345) (pk_us) ?_
  refine aw_bipush (npc := 21) (v := 8) (by decide) dX0_draw_19 rfl ?_
  refine aw_iushr (npc := 22) dX0_draw_21 rfl ?_
  refine aw_iret rfl dX0_draw_22 ?_
  exact hq _ F1 (am_fbU (by omega) am_fb0)
set_option maxHeartbeats 4000000 in
set_option maxRecDepth 100000 in
theorem g_has0 {X : List Int32} {d rc rs n : Nat} {Q : am_Q} {b : Nat} {N : Nat → Int32} {tx : List Value} {lk mv : Nat → Int32} {h : am_H} (F : QR b N tx lk mv h) (hq : Q (some (.int (hs0 N))) n h) : AW X mX0_hasOf (d + 2) rc rs 0 [some (.ref b), some (.int 0), none, none, none] [] n h Q := by
  refine aw_iconst (npc := 1) (v := 0) (by decide) dX0_hasOf_0 rfl ?_
  refine aw_istore_n (npc := 2) (L' := [some (.ref b), some (.int 0), some (.int 0), none, none]) dX0_hasOf_1 rfl (by decide) rfl rfl ?_
  refine aw_iconst (npc := 3) (v := 0) (by decide) dX0_hasOf_2 rfl ?_
  refine aw_istore_n (npc := 4) (L' := [some (.ref b), some (.int 0), some (.int 0), some (.int 0), none]) dX0_hasOf_3 rfl (by decide) rfl rfl ?_
  refine aw_iload_n (npc := 5) rfl dX0_hasOf_4 rfl ?_
  refine aw_iconst (npc := 6) (v := 4) (by decide) dX0_hasOf_5 rfl ?_
  refine aw_icmp_ge (npc := 9) (tgt := 55) dX0_hasOf_6 rfl (by decide) (fun hc => absurd hc (by decide)) (fun _ => ?_)
  refine aw_iload_n (npc := 10) rfl dX0_hasOf_9 rfl ?_
  refine aw_if_ne (npc := 13) (tgt := 22) dX0_hasOf_10 rfl (by decide) (fun hc => absurd (by decide) hc) (fun _ => ?_)
  refine aw_aload_n (npc := 14) rfl dX0_hasOf_13 rfl ?_
  refine aw_get (npc := 17) dX0_hasOf_14 rfl kf_X0_9 F.1 rfl ?_
  refine aw_iload_n (npc := 18) rfl dX0_hasOf_17 rfl ?_
  refine aw_iald (npc := 19) (x := N 8) (j := 0) dX0_hasOf_18 rfl F.2.1 ⟨by decide, by decide⟩ (tl_at (by omega)) ?_
  refine aw_goto (npc := 31) dX0_hasOf_19 (by decide) ?_
  refine aw_istore (npc := 33) (L' := [some (.ref b), some (.int 0), some (.int 0), some (.int 0), some (.int (N 8))]) dX0_hasOf_31 rfl (by decide) rfl rfl ?_
  refine aw_iload_n (npc := 34) rfl dX0_hasOf_33 rfl ?_
  refine aw_aload_n (npc := 35) rfl dX0_hasOf_34 rfl ?_
  refine aw_get (npc := 38) dX0_hasOf_35 rfl kf_X0_15 F.1 rfl ?_
  refine aw_iload_n (npc := 39) rfl dX0_hasOf_38 rfl ?_
  refine aw_iload_n (npc := 40) rfl dX0_hasOf_39 rfl ?_
  refine aw_callSN (npc := 43) (N := mX7_carePlace) (mc := 0) (ms := 0) (A := [.int 0, .int 0]) (S := [.ref (b + 2), .int 0]) (L0 := [some (.int 0), some (.int 0)]) dX0_hasOf_40 rfl km_X7_carePlace kk_X0_87 rfl ⟨rfl, by decide⟩ rfl (Nat.le_of_ble_eq_true rfl) (Nat.zero_add _) (Nat.zero_add _) rfl ?_
  refine aw_iload_n (npc := 1) rfl dX7_carePlace_0 rfl ?_
  refine aw_iconst (npc := 2) (v := 4) (by decide) dX7_carePlace_1 rfl ?_
  refine aw_imulV (npc := 3) (v := 0) dX7_carePlace_2 rfl (by decide) ?_
  refine aw_iload_n (npc := 4) rfl dX7_carePlace_3 rfl ?_
  refine aw_iaddV (npc := 5) (v := 0) dX7_carePlace_4 rfl (by decide) ?_
  refine aw_iret rfl dX7_carePlace_5 ?_
  refine aw_re (S' := [.int 0, .ref (b + 2), .int 0]) rfl ?_
  refine aw_iald (npc := 44) (x := N 12) (j := 0) dX0_hasOf_43 rfl F.2.2.1 ⟨by decide, by decide⟩ (tl_at (by omega)) ?_
  refine aw_iload (npc := 46) rfl dX0_hasOf_44 rfl ?_
  refine aw_imul (npc := 47) dX0_hasOf_46 rfl ?_
  refine aw_iadd (npc := 48) dX0_hasOf_47 rfl ?_
  refine aw_istore_n (npc := 49) (L' := [some (.ref b), some (.int 0), some (.int (0 + ((N 12) * (N 8)))), some (.int 0), some (.int (N 8))]) dX0_hasOf_48 rfl (by decide) rfl rfl ?_
  refine aw_iinc (npc := 52) (v := 1) (L' := [some (.ref b), some (.int 0), some (.int (0 + ((N 12) * (N 8)))), some (.int 1), some (.int (N 8))]) dX0_hasOf_49 rfl rfl (by decide) (by decide) rfl rfl ?_
  refine aw_goto (npc := 4) dX0_hasOf_52 (by decide) ?_
  refine aw_iload_n (npc := 5) rfl dX0_hasOf_4 rfl ?_
  refine aw_iconst (npc := 6) (v := 4) (by decide) dX0_hasOf_5 rfl ?_
  refine aw_icmp_ge (npc := 9) (tgt := 55) dX0_hasOf_6 rfl (by decide) (fun hc => absurd hc (by decide)) (fun _ => ?_)
  refine aw_iload_n (npc := 10) rfl dX0_hasOf_9 rfl ?_
  refine aw_if_ne (npc := 13) (tgt := 22) dX0_hasOf_10 rfl (by decide) (fun hc => absurd (by decide) hc) (fun _ => ?_)
  refine aw_aload_n (npc := 14) rfl dX0_hasOf_13 rfl ?_
  refine aw_get (npc := 17) dX0_hasOf_14 rfl kf_X0_9 F.1 rfl ?_
  refine aw_iload_n (npc := 18) rfl dX0_hasOf_17 rfl ?_
  refine aw_iald (npc := 19) (x := N 9) (j := 1) dX0_hasOf_18 rfl F.2.1 ⟨by decide, by decide⟩ (tl_at (by omega)) ?_
  refine aw_goto (npc := 31) dX0_hasOf_19 (by decide) ?_
  refine aw_istore (npc := 33) (L' := [some (.ref b), some (.int 0), some (.int (0 + ((N 12) * (N 8)))), some (.int 1), some (.int (N 9))]) dX0_hasOf_31 rfl (by decide) rfl rfl ?_
  refine aw_iload_n (npc := 34) rfl dX0_hasOf_33 rfl ?_
  refine aw_aload_n (npc := 35) rfl dX0_hasOf_34 rfl ?_
  refine aw_get (npc := 38) dX0_hasOf_35 rfl kf_X0_15 F.1 rfl ?_
  refine aw_iload_n (npc := 39) rfl dX0_hasOf_38 rfl ?_
  refine aw_iload_n (npc := 40) rfl dX0_hasOf_39 rfl ?_
  refine aw_callSN (npc := 43) (N := mX7_carePlace) (mc := 0) (ms := 0) (A := [.int 0, .int 1]) (S := [.ref (b + 2), .int (0 + ((N 12) * (N 8)))]) (L0 := [some (.int 0), some (.int 1)]) dX0_hasOf_40 rfl km_X7_carePlace kk_X0_87 rfl ⟨rfl, by decide⟩ rfl (Nat.le_of_ble_eq_true rfl) (Nat.zero_add _) (Nat.zero_add _) rfl ?_
  refine aw_iload_n (npc := 1) rfl dX7_carePlace_0 rfl ?_
  refine aw_iconst (npc := 2) (v := 4) (by decide) dX7_carePlace_1 rfl ?_
  refine aw_imulV (npc := 3) (v := 0) dX7_carePlace_2 rfl (by decide) ?_
  refine aw_iload_n (npc := 4) rfl dX7_carePlace_3 rfl ?_
  refine aw_iaddV (npc := 5) (v := 1) dX7_carePlace_4 rfl (by decide) ?_
  refine aw_iret rfl dX7_carePlace_5 ?_
  refine aw_re (S' := [.int 1, .ref (b + 2), .int (0 + ((N 12) * (N 8)))]) rfl ?_
  refine aw_iald (npc := 44) (x := N 13) (j := 1) dX0_hasOf_43 rfl F.2.2.1 ⟨by decide, by decide⟩ (tl_at (by omega)) ?_
  refine aw_iload (npc := 46) rfl dX0_hasOf_44 rfl ?_
  refine aw_imul (npc := 47) dX0_hasOf_46 rfl ?_
  refine aw_iadd (npc := 48) dX0_hasOf_47 rfl ?_
  refine aw_istore_n (npc := 49) (L' := [some (.ref b), some (.int 0), some (.int ((0 + ((N 12) * (N 8))) + ((N 13) * (N 9)))), some (.int 1), some (.int (N 9))]) dX0_hasOf_48 rfl (by decide) rfl rfl ?_
  refine aw_iinc (npc := 52) (v := 2) (L' := [some (.ref b), some (.int 0), some (.int ((0 + ((N 12) * (N 8))) + ((N 13) * (N 9)))), some (.int 2), some (.int (N 9))]) dX0_hasOf_49 rfl rfl (by decide) (by decide) rfl rfl ?_
  refine aw_goto (npc := 4) dX0_hasOf_52 (by decide) ?_
  refine aw_iload_n (npc := 5) rfl dX0_hasOf_4 rfl ?_
  refine aw_iconst (npc := 6) (v := 4) (by decide) dX0_hasOf_5 rfl ?_
  refine aw_icmp_ge (npc := 9) (tgt := 55) dX0_hasOf_6 rfl (by decide) (fun hc => absurd hc (by decide)) (fun _ => ?_)
  refine aw_iload_n (npc := 10) rfl dX0_hasOf_9 rfl ?_
  refine aw_if_ne (npc := 13) (tgt := 22) dX0_hasOf_10 rfl (by decide) (fun hc => absurd (by decide) hc) (fun _ => ?_)
  refine aw_aload_n (npc := 14) rfl dX0_hasOf_13 rfl ?_
  refine aw_get (npc := 17) dX0_hasOf_14 rfl kf_X0_9 F.1 rfl ?_
  refine aw_iload_n (npc := 18) rfl dX0_hasOf_17 rfl ?_
  refine aw_iald (npc := 19) (x := N 10) (j := 2) dX0_hasOf_18 rfl F.2.1 ⟨by decide, by decide⟩ (tl_at (by omega)) ?_
  refine aw_goto (npc := 31) dX0_hasOf_19 (by decide) ?_
  refine aw_istore (npc := 33) (L' := [some (.ref b), some (.int 0), some (.int ((0 + ((N 12) * (N 8))) + ((N 13) * (N 9)))), some (.int 2), some (.int (N 10))]) dX0_hasOf_31 rfl (by decide) rfl rfl ?_
  refine aw_iload_n (npc := 34) rfl dX0_hasOf_33 rfl ?_
  refine aw_aload_n (npc := 35) rfl dX0_hasOf_34 rfl ?_
  refine aw_get (npc := 38) dX0_hasOf_35 rfl kf_X0_15 F.1 rfl ?_
  refine aw_iload_n (npc := 39) rfl dX0_hasOf_38 rfl ?_
  refine aw_iload_n (npc := 40) rfl dX0_hasOf_39 rfl ?_
  refine aw_callSN (npc := 43) (N := mX7_carePlace) (mc := 0) (ms := 0) (A := [.int 0, .int 2]) (S := [.ref (b + 2), .int ((0 + ((N 12) * (N 8))) + ((N 13) * (N 9)))]) (L0 := [some (.int 0), some (.int 2)]) dX0_hasOf_40 rfl km_X7_carePlace kk_X0_87 rfl ⟨rfl, by decide⟩ rfl (Nat.le_of_ble_eq_true rfl) (Nat.zero_add _) (Nat.zero_add _) rfl ?_
  refine aw_iload_n (npc := 1) rfl dX7_carePlace_0 rfl ?_
  refine aw_iconst (npc := 2) (v := 4) (by decide) dX7_carePlace_1 rfl ?_
  refine aw_imulV (npc := 3) (v := 0) dX7_carePlace_2 rfl (by decide) ?_
  refine aw_iload_n (npc := 4) rfl dX7_carePlace_3 rfl ?_
  refine aw_iaddV (npc := 5) (v := 2) dX7_carePlace_4 rfl (by decide) ?_
  refine aw_iret rfl dX7_carePlace_5 ?_
  refine aw_re (S' := [.int 2, .ref (b + 2), .int ((0 + ((N 12) * (N 8))) + ((N 13) * (N 9)))]) rfl ?_
  refine aw_iald (npc := 44) (x := N 14) (j := 2) dX0_hasOf_43 rfl F.2.2.1 ⟨by decide, by decide⟩ (tl_at (by omega)) ?_
  refine aw_iload (npc := 46) rfl dX0_hasOf_44 rfl ?_
  refine aw_imul (npc := 47) dX0_hasOf_46 rfl ?_
  refine aw_iadd (npc := 48) dX0_hasOf_47 rfl ?_
  refine aw_istore_n (npc := 49) (L' := [some (.ref b), some (.int 0), some (.int (((0 + ((N 12) * (N 8))) + ((N 13) * (N 9))) + ((N 14) * (N 10)))), some (.int 2), some (.int (N 10))]) dX0_hasOf_48 rfl (by decide) rfl rfl ?_
  refine aw_iinc (npc := 52) (v := 3) (L' := [some (.ref b), some (.int 0), some (.int (((0 + ((N 12) * (N 8))) + ((N 13) * (N 9))) + ((N 14) * (N 10)))), some (.int 3), some (.int (N 10))]) dX0_hasOf_49 rfl rfl (by decide) (by decide) rfl rfl ?_
  refine aw_goto (npc := 4) dX0_hasOf_52 (by decide) ?_
  refine aw_iload_n (npc := 5) rfl dX0_hasOf_4 rfl ?_
  refine aw_iconst (npc := 6) (v := 4) (by decide) dX0_hasOf_5 rfl ?_
  refine aw_icmp_ge (npc := 9) (tgt := 55) dX0_hasOf_6 rfl (by decide) (fun hc => absurd hc (by decide)) (fun _ => ?_)
  refine aw_iload_n (npc := 10) rfl dX0_hasOf_9 rfl ?_
  refine aw_if_ne (npc := 13) (tgt := 22) dX0_hasOf_10 rfl (by decide) (fun hc => absurd (by decide) hc) (fun _ => ?_)
  refine aw_aload_n (npc := 14) rfl dX0_hasOf_13 rfl ?_
  refine aw_get (npc := 17) dX0_hasOf_14 rfl kf_X0_9 F.1 rfl ?_
  refine aw_iload_n (npc := 18) rfl dX0_hasOf_17 rfl ?_
  refine aw_iald (npc := 19) (x := N 11) (j := 3) dX0_hasOf_18 rfl F.2.1 ⟨by decide, by decide⟩ (tl_at (by omega)) ?_
  refine aw_goto (npc := 31) dX0_hasOf_19 (by decide) ?_
  refine aw_istore (npc := 33) (L' := [some (.ref b), some (.int 0), some (.int (((0 + ((N 12) * (N 8))) + ((N 13) * (N 9))) + ((N 14) * (N 10)))), some (.int 3), some (.int (N 11))]) dX0_hasOf_31 rfl (by decide) rfl rfl ?_
  refine aw_iload_n (npc := 34) rfl dX0_hasOf_33 rfl ?_
  refine aw_aload_n (npc := 35) rfl dX0_hasOf_34 rfl ?_
  refine aw_get (npc := 38) dX0_hasOf_35 rfl kf_X0_15 F.1 rfl ?_
  refine aw_iload_n (npc := 39) rfl dX0_hasOf_38 rfl ?_
  refine aw_iload_n (npc := 40) rfl dX0_hasOf_39 rfl ?_
  refine aw_callSN (npc := 43) (N := mX7_carePlace) (mc := 0) (ms := 0) (A := [.int 0, .int 3]) (S := [.ref (b + 2), .int (((0 + ((N 12) * (N 8))) + ((N 13) * (N 9))) + ((N 14) * (N 10)))]) (L0 := [some (.int 0), some (.int 3)]) dX0_hasOf_40 rfl km_X7_carePlace kk_X0_87 rfl ⟨rfl, by decide⟩ rfl (Nat.le_of_ble_eq_true rfl) (Nat.zero_add _) (Nat.zero_add _) rfl ?_
  refine aw_iload_n (npc := 1) rfl dX7_carePlace_0 rfl ?_
  refine aw_iconst (npc := 2) (v := 4) (by decide) dX7_carePlace_1 rfl ?_
  refine aw_imulV (npc := 3) (v := 0) dX7_carePlace_2 rfl (by decide) ?_
  refine aw_iload_n (npc := 4) rfl dX7_carePlace_3 rfl ?_
  refine aw_iaddV (npc := 5) (v := 3) dX7_carePlace_4 rfl (by decide) ?_
  refine aw_iret rfl dX7_carePlace_5 ?_
  refine aw_re (S' := [.int 3, .ref (b + 2), .int (((0 + ((N 12) * (N 8))) + ((N 13) * (N 9))) + ((N 14) * (N 10)))]) rfl ?_
  refine aw_iald (npc := 44) (x := N 15) (j := 3) dX0_hasOf_43 rfl F.2.2.1 ⟨by decide, by decide⟩ (tl_at (by omega)) ?_
  refine aw_iload (npc := 46) rfl dX0_hasOf_44 rfl ?_
  refine aw_imul (npc := 47) dX0_hasOf_46 rfl ?_
  refine aw_iadd (npc := 48) dX0_hasOf_47 rfl ?_
  refine aw_istore_n (npc := 49) (L' := [some (.ref b), some (.int 0), some (.int ((((0 + ((N 12) * (N 8))) + ((N 13) * (N 9))) + ((N 14) * (N 10))) + ((N 15) * (N 11)))), some (.int 3), some (.int (N 11))]) dX0_hasOf_48 rfl (by decide) rfl rfl ?_
  refine aw_iinc (npc := 52) (v := 4) (L' := [some (.ref b), some (.int 0), some (.int ((((0 + ((N 12) * (N 8))) + ((N 13) * (N 9))) + ((N 14) * (N 10))) + ((N 15) * (N 11)))), some (.int 4), some (.int (N 11))]) dX0_hasOf_49 rfl rfl (by decide) (by decide) rfl rfl ?_
  refine aw_goto (npc := 4) dX0_hasOf_52 (by decide) ?_
  refine aw_iload_n (npc := 5) rfl dX0_hasOf_4 rfl ?_
  refine aw_iconst (npc := 6) (v := 4) (by decide) dX0_hasOf_5 rfl ?_
  refine aw_icmp_ge (npc := 9) (tgt := 55) dX0_hasOf_6 rfl (by decide) (fun _ => ?_) (fun hc => absurd (by decide) hc)
  refine aw_iload_n (npc := 56) rfl dX0_hasOf_55 rfl ?_
  refine aw_iret rfl dX0_hasOf_56 ?_
  exact hq
set_option maxHeartbeats 4000000 in
set_option maxRecDepth 100000 in
theorem g_has1 {X : List Int32} {d rc rs n : Nat} {Q : am_Q} {b : Nat} {N : Nat → Int32} {tx : List Value} {lk mv : Nat → Int32} {h : am_H} (F : QR b N tx lk mv h) (hq : Q (some (.int (hs1 N))) n h) : AW X mX0_hasOf (d + 2) rc rs 0 [some (.ref b), some (.int 1), none, none, none] [] n h Q := by
  refine aw_iconst (npc := 1) (v := 0) (by decide) dX0_hasOf_0 rfl ?_
  refine aw_istore_n (npc := 2) (L' := [some (.ref b), some (.int 1), some (.int 0), none, none]) dX0_hasOf_1 rfl (by decide) rfl rfl ?_
  refine aw_iconst (npc := 3) (v := 0) (by decide) dX0_hasOf_2 rfl ?_
  refine aw_istore_n (npc := 4) (L' := [some (.ref b), some (.int 1), some (.int 0), some (.int 0), none]) dX0_hasOf_3 rfl (by decide) rfl rfl ?_
  refine aw_iload_n (npc := 5) rfl dX0_hasOf_4 rfl ?_
  refine aw_iconst (npc := 6) (v := 4) (by decide) dX0_hasOf_5 rfl ?_
  refine aw_icmp_ge (npc := 9) (tgt := 55) dX0_hasOf_6 rfl (by decide) (fun hc => absurd hc (by decide)) (fun _ => ?_)
  refine aw_iload_n (npc := 10) rfl dX0_hasOf_9 rfl ?_
  refine aw_if_ne (npc := 13) (tgt := 22) dX0_hasOf_10 rfl (by decide) (fun _ => ?_) (fun hc => absurd hc (by decide))
  refine aw_bipush (npc := 24) (v := 9) (by decide) dX0_hasOf_22 rfl ?_
  refine aw_aload_n (npc := 25) rfl dX0_hasOf_24 rfl ?_
  refine aw_get (npc := 28) dX0_hasOf_25 rfl kf_X0_9 F.1 rfl ?_
  refine aw_iload_n (npc := 29) rfl dX0_hasOf_28 rfl ?_
  refine aw_iald (npc := 30) (x := N 8) (j := 0) dX0_hasOf_29 rfl F.2.1 ⟨by decide, by decide⟩ (tl_at (by omega)) ?_
  refine aw_isub (npc := 31) dX0_hasOf_30 rfl ?_
  refine aw_istore (npc := 33) (L' := [some (.ref b), some (.int 1), some (.int 0), some (.int 0), some (.int (9 - (N 8)))]) dX0_hasOf_31 rfl (by decide) rfl rfl ?_
  refine aw_iload_n (npc := 34) rfl dX0_hasOf_33 rfl ?_
  refine aw_aload_n (npc := 35) rfl dX0_hasOf_34 rfl ?_
  refine aw_get (npc := 38) dX0_hasOf_35 rfl kf_X0_15 F.1 rfl ?_
  refine aw_iload_n (npc := 39) rfl dX0_hasOf_38 rfl ?_
  refine aw_iload_n (npc := 40) rfl dX0_hasOf_39 rfl ?_
  refine aw_callSN (npc := 43) (N := mX7_carePlace) (mc := 0) (ms := 0) (A := [.int 1, .int 0]) (S := [.ref (b + 2), .int 0]) (L0 := [some (.int 1), some (.int 0)]) dX0_hasOf_40 rfl km_X7_carePlace kk_X0_87 rfl ⟨rfl, by decide⟩ rfl (Nat.le_of_ble_eq_true rfl) (Nat.zero_add _) (Nat.zero_add _) rfl ?_
  refine aw_iload_n (npc := 1) rfl dX7_carePlace_0 rfl ?_
  refine aw_iconst (npc := 2) (v := 4) (by decide) dX7_carePlace_1 rfl ?_
  refine aw_imulV (npc := 3) (v := 4) dX7_carePlace_2 rfl (by decide) ?_
  refine aw_iload_n (npc := 4) rfl dX7_carePlace_3 rfl ?_
  refine aw_iaddV (npc := 5) (v := 4) dX7_carePlace_4 rfl (by decide) ?_
  refine aw_iret rfl dX7_carePlace_5 ?_
  refine aw_re (S' := [.int 4, .ref (b + 2), .int 0]) rfl ?_
  refine aw_iald (npc := 44) (x := N 16) (j := 4) dX0_hasOf_43 rfl F.2.2.1 ⟨by decide, by decide⟩ (tl_at (by omega)) ?_
  refine aw_iload (npc := 46) rfl dX0_hasOf_44 rfl ?_
  refine aw_imul (npc := 47) dX0_hasOf_46 rfl ?_
  refine aw_iadd (npc := 48) dX0_hasOf_47 rfl ?_
  refine aw_istore_n (npc := 49) (L' := [some (.ref b), some (.int 1), some (.int (0 + ((N 16) * (9 - (N 8))))), some (.int 0), some (.int (9 - (N 8)))]) dX0_hasOf_48 rfl (by decide) rfl rfl ?_
  refine aw_iinc (npc := 52) (v := 1) (L' := [some (.ref b), some (.int 1), some (.int (0 + ((N 16) * (9 - (N 8))))), some (.int 1), some (.int (9 - (N 8)))]) dX0_hasOf_49 rfl rfl (by decide) (by decide) rfl rfl ?_
  refine aw_goto (npc := 4) dX0_hasOf_52 (by decide) ?_
  refine aw_iload_n (npc := 5) rfl dX0_hasOf_4 rfl ?_
  refine aw_iconst (npc := 6) (v := 4) (by decide) dX0_hasOf_5 rfl ?_
  refine aw_icmp_ge (npc := 9) (tgt := 55) dX0_hasOf_6 rfl (by decide) (fun hc => absurd hc (by decide)) (fun _ => ?_)
  refine aw_iload_n (npc := 10) rfl dX0_hasOf_9 rfl ?_
  refine aw_if_ne (npc := 13) (tgt := 22) dX0_hasOf_10 rfl (by decide) (fun _ => ?_) (fun hc => absurd hc (by decide))
  refine aw_bipush (npc := 24) (v := 9) (by decide) dX0_hasOf_22 rfl ?_
  refine aw_aload_n (npc := 25) rfl dX0_hasOf_24 rfl ?_
  refine aw_get (npc := 28) dX0_hasOf_25 rfl kf_X0_9 F.1 rfl ?_
  refine aw_iload_n (npc := 29) rfl dX0_hasOf_28 rfl ?_
  refine aw_iald (npc := 30) (x := N 9) (j := 1) dX0_hasOf_29 rfl F.2.1 ⟨by decide, by decide⟩ (tl_at (by omega)) ?_
  refine aw_isub (npc := 31) dX0_hasOf_30 rfl ?_
  refine aw_istore (npc := 33) (L' := [some (.ref b), some (.int 1), some (.int (0 + ((N 16) * (9 - (N 8))))), some (.int 1), some (.int (9 - (N 9)))]) dX0_hasOf_31 rfl (by decide) rfl rfl ?_
  refine aw_iload_n (npc := 34) rfl dX0_hasOf_33 rfl ?_
  refine aw_aload_n (npc := 35) rfl dX0_hasOf_34 rfl ?_
  refine aw_get (npc := 38) dX0_hasOf_35 rfl kf_X0_15 F.1 rfl ?_
  refine aw_iload_n (npc := 39) rfl dX0_hasOf_38 rfl ?_
  refine aw_iload_n (npc := 40) rfl dX0_hasOf_39 rfl ?_
  refine aw_callSN (npc := 43) (N := mX7_carePlace) (mc := 0) (ms := 0) (A := [.int 1, .int 1]) (S := [.ref (b + 2), .int (0 + ((N 16) * (9 - (N 8))))]) (L0 := [some (.int 1), some (.int 1)]) dX0_hasOf_40 rfl km_X7_carePlace kk_X0_87 rfl ⟨rfl, by decide⟩ rfl (Nat.le_of_ble_eq_true rfl) (Nat.zero_add _) (Nat.zero_add _) rfl ?_
  refine aw_iload_n (npc := 1) rfl dX7_carePlace_0 rfl ?_
  refine aw_iconst (npc := 2) (v := 4) (by decide) dX7_carePlace_1 rfl ?_
  refine aw_imulV (npc := 3) (v := 4) dX7_carePlace_2 rfl (by decide) ?_
  refine aw_iload_n (npc := 4) rfl dX7_carePlace_3 rfl ?_
  refine aw_iaddV (npc := 5) (v := 5) dX7_carePlace_4 rfl (by decide) ?_
  refine aw_iret rfl dX7_carePlace_5 ?_
  refine aw_re (S' := [.int 5, .ref (b + 2), .int (0 + ((N 16) * (9 - (N 8))))]) rfl ?_
  refine aw_iald (npc := 44) (x := N 17) (j := 5) dX0_hasOf_43 rfl F.2.2.1 ⟨by decide, by decide⟩ (tl_at (by omega)) ?_
  refine aw_iload (npc := 46) rfl dX0_hasOf_44 rfl ?_
  refine aw_imul (npc := 47) dX0_hasOf_46 rfl ?_
  refine aw_iadd (npc := 48) dX0_hasOf_47 rfl ?_
  refine aw_istore_n (npc := 49) (L' := [some (.ref b), some (.int 1), some (.int ((0 + ((N 16) * (9 - (N 8)))) + ((N 17) * (9 - (N 9))))), some (.int 1), some (.int (9 - (N 9)))]) dX0_hasOf_48 rfl (by decide) rfl rfl ?_
  refine aw_iinc (npc := 52) (v := 2) (L' := [some (.ref b), some (.int 1), some (.int ((0 + ((N 16) * (9 - (N 8)))) + ((N 17) * (9 - (N 9))))), some (.int 2), some (.int (9 - (N 9)))]) dX0_hasOf_49 rfl rfl (by decide) (by decide) rfl rfl ?_
  refine aw_goto (npc := 4) dX0_hasOf_52 (by decide) ?_
  refine aw_iload_n (npc := 5) rfl dX0_hasOf_4 rfl ?_
  refine aw_iconst (npc := 6) (v := 4) (by decide) dX0_hasOf_5 rfl ?_
  refine aw_icmp_ge (npc := 9) (tgt := 55) dX0_hasOf_6 rfl (by decide) (fun hc => absurd hc (by decide)) (fun _ => ?_)
  refine aw_iload_n (npc := 10) rfl dX0_hasOf_9 rfl ?_
  refine aw_if_ne (npc := 13) (tgt := 22) dX0_hasOf_10 rfl (by decide) (fun _ => ?_) (fun hc => absurd hc (by decide))
  refine aw_bipush (npc := 24) (v := 9) (by decide) dX0_hasOf_22 rfl ?_
  refine aw_aload_n (npc := 25) rfl dX0_hasOf_24 rfl ?_
  refine aw_get (npc := 28) dX0_hasOf_25 rfl kf_X0_9 F.1 rfl ?_
  refine aw_iload_n (npc := 29) rfl dX0_hasOf_28 rfl ?_
  refine aw_iald (npc := 30) (x := N 10) (j := 2) dX0_hasOf_29 rfl F.2.1 ⟨by decide, by decide⟩ (tl_at (by omega)) ?_
  refine aw_isub (npc := 31) dX0_hasOf_30 rfl ?_
  refine aw_istore (npc := 33) (L' := [some (.ref b), some (.int 1), some (.int ((0 + ((N 16) * (9 - (N 8)))) + ((N 17) * (9 - (N 9))))), some (.int 2), some (.int (9 - (N 10)))]) dX0_hasOf_31 rfl (by decide) rfl rfl ?_
  refine aw_iload_n (npc := 34) rfl dX0_hasOf_33 rfl ?_
  refine aw_aload_n (npc := 35) rfl dX0_hasOf_34 rfl ?_
  refine aw_get (npc := 38) dX0_hasOf_35 rfl kf_X0_15 F.1 rfl ?_
  refine aw_iload_n (npc := 39) rfl dX0_hasOf_38 rfl ?_
  refine aw_iload_n (npc := 40) rfl dX0_hasOf_39 rfl ?_
  refine aw_callSN (npc := 43) (N := mX7_carePlace) (mc := 0) (ms := 0) (A := [.int 1, .int 2]) (S := [.ref (b + 2), .int ((0 + ((N 16) * (9 - (N 8)))) + ((N 17) * (9 - (N 9))))]) (L0 := [some (.int 1), some (.int 2)]) dX0_hasOf_40 rfl km_X7_carePlace kk_X0_87 rfl ⟨rfl, by decide⟩ rfl (Nat.le_of_ble_eq_true rfl) (Nat.zero_add _) (Nat.zero_add _) rfl ?_
  refine aw_iload_n (npc := 1) rfl dX7_carePlace_0 rfl ?_
  refine aw_iconst (npc := 2) (v := 4) (by decide) dX7_carePlace_1 rfl ?_
  refine aw_imulV (npc := 3) (v := 4) dX7_carePlace_2 rfl (by decide) ?_
  refine aw_iload_n (npc := 4) rfl dX7_carePlace_3 rfl ?_
  refine aw_iaddV (npc := 5) (v := 6) dX7_carePlace_4 rfl (by decide) ?_
  refine aw_iret rfl dX7_carePlace_5 ?_
  refine aw_re (S' := [.int 6, .ref (b + 2), .int ((0 + ((N 16) * (9 - (N 8)))) + ((N 17) * (9 - (N 9))))]) rfl ?_
  refine aw_iald (npc := 44) (x := N 18) (j := 6) dX0_hasOf_43 rfl F.2.2.1 ⟨by decide, by decide⟩ (tl_at (by omega)) ?_
  refine aw_iload (npc := 46) rfl dX0_hasOf_44 rfl ?_
  refine aw_imul (npc := 47) dX0_hasOf_46 rfl ?_
  refine aw_iadd (npc := 48) dX0_hasOf_47 rfl ?_
  refine aw_istore_n (npc := 49) (L' := [some (.ref b), some (.int 1), some (.int (((0 + ((N 16) * (9 - (N 8)))) + ((N 17) * (9 - (N 9)))) + ((N 18) * (9 - (N 10))))), some (.int 2), some (.int (9 - (N 10)))]) dX0_hasOf_48 rfl (by decide) rfl rfl ?_
  refine aw_iinc (npc := 52) (v := 3) (L' := [some (.ref b), some (.int 1), some (.int (((0 + ((N 16) * (9 - (N 8)))) + ((N 17) * (9 - (N 9)))) + ((N 18) * (9 - (N 10))))), some (.int 3), some (.int (9 - (N 10)))]) dX0_hasOf_49 rfl rfl (by decide) (by decide) rfl rfl ?_
  refine aw_goto (npc := 4) dX0_hasOf_52 (by decide) ?_
  refine aw_iload_n (npc := 5) rfl dX0_hasOf_4 rfl ?_
  refine aw_iconst (npc := 6) (v := 4) (by decide) dX0_hasOf_5 rfl ?_
  refine aw_icmp_ge (npc := 9) (tgt := 55) dX0_hasOf_6 rfl (by decide) (fun hc => absurd hc (by decide)) (fun _ => ?_)
  refine aw_iload_n (npc := 10) rfl dX0_hasOf_9 rfl ?_
  refine aw_if_ne (npc := 13) (tgt := 22) dX0_hasOf_10 rfl (by decide) (fun _ => ?_) (fun hc => absurd hc (by decide))
  refine aw_bipush (npc := 24) (v := 9) (by decide) dX0_hasOf_22 rfl ?_
  refine aw_aload_n (npc := 25) rfl dX0_hasOf_24 rfl ?_
  refine aw_get (npc := 28) dX0_hasOf_25 rfl kf_X0_9 F.1 rfl ?_
  refine aw_iload_n (npc := 29) rfl dX0_hasOf_28 rfl ?_
  refine aw_iald (npc := 30) (x := N 11) (j := 3) dX0_hasOf_29 rfl F.2.1 ⟨by decide, by decide⟩ (tl_at (by omega)) ?_
  refine aw_isub (npc := 31) dX0_hasOf_30 rfl ?_
  refine aw_istore (npc := 33) (L' := [some (.ref b), some (.int 1), some (.int (((0 + ((N 16) * (9 - (N 8)))) + ((N 17) * (9 - (N 9)))) + ((N 18) * (9 - (N 10))))), some (.int 3), some (.int (9 - (N 11)))]) dX0_hasOf_31 rfl (by decide) rfl rfl ?_
  refine aw_iload_n (npc := 34) rfl dX0_hasOf_33 rfl ?_
  refine aw_aload_n (npc := 35) rfl dX0_hasOf_34 rfl ?_
  refine aw_get (npc := 38) dX0_hasOf_35 rfl kf_X0_15 F.1 rfl ?_
  refine aw_iload_n (npc := 39) rfl dX0_hasOf_38 rfl ?_
  refine aw_iload_n (npc := 40) rfl dX0_hasOf_39 rfl ?_
  refine aw_callSN (npc := 43) (N := mX7_carePlace) (mc := 0) (ms := 0) (A := [.int 1, .int 3]) (S := [.ref (b + 2), .int (((0 + ((N 16) * (9 - (N 8)))) + ((N 17) * (9 - (N 9)))) + ((N 18) * (9 - (N 10))))]) (L0 := [some (.int 1), some (.int 3)]) dX0_hasOf_40 rfl km_X7_carePlace kk_X0_87 rfl ⟨rfl, by decide⟩ rfl (Nat.le_of_ble_eq_true rfl) (Nat.zero_add _) (Nat.zero_add _) rfl ?_
  refine aw_iload_n (npc := 1) rfl dX7_carePlace_0 rfl ?_
  refine aw_iconst (npc := 2) (v := 4) (by decide) dX7_carePlace_1 rfl ?_
  refine aw_imulV (npc := 3) (v := 4) dX7_carePlace_2 rfl (by decide) ?_
  refine aw_iload_n (npc := 4) rfl dX7_carePlace_3 rfl ?_
  refine aw_iaddV (npc := 5) (v := 7) dX7_carePlace_4 rfl (by decide) ?_
  refine aw_iret rfl dX7_carePlace_5 ?_
  refine aw_re (S' := [.int 7, .ref (b + 2), .int (((0 + ((N 16) * (9 - (N 8)))) + ((N 17) * (9 - (N 9)))) + ((N 18) * (9 - (N 10))))]) rfl ?_
  refine aw_iald (npc := 44) (x := N 19) (j := 7) dX0_hasOf_43 rfl F.2.2.1 ⟨by decide, by decide⟩ (tl_at (by omega)) ?_
  refine aw_iload (npc := 46) rfl dX0_hasOf_44 rfl ?_
  refine aw_imul (npc := 47) dX0_hasOf_46 rfl ?_
  refine aw_iadd (npc := 48) dX0_hasOf_47 rfl ?_
  refine aw_istore_n (npc := 49) (L' := [some (.ref b), some (.int 1), some (.int ((((0 + ((N 16) * (9 - (N 8)))) + ((N 17) * (9 - (N 9)))) + ((N 18) * (9 - (N 10)))) + ((N 19) * (9 - (N 11))))), some (.int 3), some (.int (9 - (N 11)))]) dX0_hasOf_48 rfl (by decide) rfl rfl ?_
  refine aw_iinc (npc := 52) (v := 4) (L' := [some (.ref b), some (.int 1), some (.int ((((0 + ((N 16) * (9 - (N 8)))) + ((N 17) * (9 - (N 9)))) + ((N 18) * (9 - (N 10)))) + ((N 19) * (9 - (N 11))))), some (.int 4), some (.int (9 - (N 11)))]) dX0_hasOf_49 rfl rfl (by decide) (by decide) rfl rfl ?_
  refine aw_goto (npc := 4) dX0_hasOf_52 (by decide) ?_
  refine aw_iload_n (npc := 5) rfl dX0_hasOf_4 rfl ?_
  refine aw_iconst (npc := 6) (v := 4) (by decide) dX0_hasOf_5 rfl ?_
  refine aw_icmp_ge (npc := 9) (tgt := 55) dX0_hasOf_6 rfl (by decide) (fun _ => ?_) (fun hc => absurd (by decide) hc)
  refine aw_iload_n (npc := 56) rfl dX0_hasOf_55 rfl ?_
  refine aw_iret rfl dX0_hasOf_56 ?_
  exact hq
set_option maxHeartbeats 4000000 in
set_option maxRecDepth 100000 in
theorem g_peace {X : List Int32} {d rc rs n : Nat} {Q : am_Q} {b : Nat} {N : Nat → Int32} {tx : List Value} {lk mv : Nat → Int32} {h : am_H} (F : QR b N tx lk mv h) (k1 : peace N → Q (some (.int 1)) n h) (k0 : ¬ peace N → Q (some (.int 0)) n h) : AW X mX0_isPeace (d + 4) rc rs 0 [some (.ref b)] [] n h Q := by
  refine aw_aload_n (npc := 1) rfl dX0_isPeace_0 rfl ?_
  refine aw_iconst (npc := 2) (v := 0) (by decide) dX0_isPeace_1 rfl ?_
  refine aw_callV (npc := 5) (N := mX0_hasOf) (b := b) (mc := 0) (ms := 0) (A := [.int 0]) (S := []) (L0 := [some (.ref b), some (.int 0), none, none, none]) dX0_isPeace_2 rfl km_X0_hasOf kk_X0_91 F.1 ⟨by decide, rfl⟩ rfl ⟨rfl, by decide⟩ rfl (Nat.le_of_ble_eq_true rfl) (Nat.zero_add _) (Nat.zero_add _) rfl ?_
  refine g_has0 F ?_
  refine aw_re (S' := [.int (hs0 N)]) rfl ?_
  refine aw_aload_n (npc := 6) rfl dX0_isPeace_5 rfl ?_
  refine aw_get (npc := 9) dX0_isPeace_6 rfl kf_X0_18 F.1 rfl ?_
  refine aw_iconst (npc := 10) (v := 0) (by decide) dX0_isPeace_9 rfl ?_
  refine aw_iald (npc := 11) (x := N 20) (j := 0) dX0_isPeace_10 rfl F.2.2.2.1 ⟨by decide, by decide⟩ (tl_at (by omega)) ?_
  refine aw_icmp_lt (npc := 14) (tgt := 32) dX0_isPeace_11 rfl (by decide) (fun hc1 => ?_) (fun hc1 => ?_)
  · refine aw_iconst (npc := 33) (v := 0) (by decide) dX0_isPeace_32 rfl ?_
    refine aw_zret rfl rfl dX0_isPeace_33 ?_
    exact k0 (fun h9 => h9.1 hc1)
  · refine aw_aload_n (npc := 15) rfl dX0_isPeace_14 rfl ?_
    refine aw_iconst (npc := 16) (v := 1) (by decide) dX0_isPeace_15 rfl ?_
    refine aw_callV (npc := 19) (N := mX0_hasOf) (b := b) (mc := 0) (ms := 0) (A := [.int 1]) (S := []) (L0 := [some (.ref b), some (.int 1), none, none, none]) dX0_isPeace_16 rfl km_X0_hasOf kk_X0_91 F.1 ⟨by decide, rfl⟩ rfl ⟨rfl, by decide⟩ rfl (Nat.le_of_ble_eq_true rfl) (Nat.zero_add _) (Nat.zero_add _) rfl ?_
    refine g_has1 F ?_
    refine aw_re (S' := [.int (hs1 N)]) rfl ?_
    refine aw_aload_n (npc := 20) rfl dX0_isPeace_19 rfl ?_
    refine aw_get (npc := 23) dX0_isPeace_20 rfl kf_X0_18 F.1 rfl ?_
    refine aw_iconst (npc := 24) (v := 1) (by decide) dX0_isPeace_23 rfl ?_
    refine aw_iald (npc := 25) (x := N 21) (j := 1) dX0_isPeace_24 rfl F.2.2.2.1 ⟨by decide, by decide⟩ (tl_at (by omega)) ?_
    refine aw_icmp_lt (npc := 28) (tgt := 32) dX0_isPeace_25 rfl (by decide) (fun hc2 => ?_) (fun hc2 => ?_)
    · refine aw_iconst (npc := 33) (v := 0) (by decide) dX0_isPeace_32 rfl ?_
      refine aw_zret rfl rfl dX0_isPeace_33 ?_
      exact k0 (fun h9 => h9.2 hc2)
    · refine aw_iconst (npc := 29) (v := 1) (by decide) dX0_isPeace_28 rfl ?_
      refine aw_goto (npc := 33) dX0_isPeace_29 (by decide) ?_
      refine aw_zret rfl rfl dX0_isPeace_33 ?_
      exact k1 ⟨hc1, hc2⟩
set_option maxHeartbeats 4000000 in
set_option maxRecDepth 100000 in
theorem g_duel {X : List Int32} {d rc rs n : Nat} {Q : am_Q} {b : Nat} {N : Nat → Int32} {tx : List Value} {lk mv : Nat → Int32} {h : am_H} (F : QR b N tx lk mv h) (k1 : duel N → Q (some (.int 1)) n h) (k0 : ¬ duel N → Q (some (.int 0)) n h) : AW X mX0_isDuel (d + 0) rc rs 0 [some (.ref b)] [] n h Q := by
  refine aw_aload_n (npc := 1) rfl dX0_isDuel_0 rfl ?_
  refine aw_get (npc := 4) dX0_isDuel_1 rfl kf_X0_21 F.1 rfl ?_
  refine aw_aload_n (npc := 5) rfl dX0_isDuel_4 rfl ?_
  refine aw_get (npc := 8) dX0_isDuel_5 rfl kf_X0_25 F.1 rfl ?_
  refine aw_icmp_lt (npc := 11) (tgt := 15) dX0_isDuel_8 rfl (by decide) (fun hc1 => ?_) (fun hc1 => ?_)
  · refine aw_iconst (npc := 16) (v := 0) (by decide) dX0_isDuel_15 rfl ?_
    refine aw_zret rfl rfl dX0_isDuel_16 ?_
    exact k0 (fun h9 => h9 hc1)
  · refine aw_iconst (npc := 12) (v := 1) (by decide) dX0_isDuel_11 rfl ?_
    refine aw_goto (npc := 16) dX0_isDuel_12 (by decide) ?_
    refine aw_zret rfl rfl dX0_isDuel_16 ?_
    exact k1 hc1
set_option maxHeartbeats 4000000 in
set_option maxRecDepth 100000 in
theorem g_snum {X : List Int32} {d rc rs n : Nat} {Q : am_Q} {b : Nat} {N : Nat → Int32} {tx : List Value} {lk mv : Nat → Int32} {h : am_H} (F : QR b N tx lk mv h) (hq : Q (some (.int (snum N))) n h) : AW X mX0_standsAsNumber (d + 0) rc rs 0 [some (.ref b), none, none] [] n h Q := by
  refine aw_iconst (npc := 1) (v := 0) (by decide) dX0_standsAsNumber_0 rfl ?_
  refine aw_istore_n (npc := 2) (L' := [some (.ref b), some (.int 0), none]) dX0_standsAsNumber_1 rfl (by decide) rfl rfl ?_
  refine aw_iconst (npc := 3) (v := 0) (by decide) dX0_standsAsNumber_2 rfl ?_
  refine aw_istore_n (npc := 4) (L' := [some (.ref b), some (.int 0), some (.int 0)]) dX0_standsAsNumber_3 rfl (by decide) rfl rfl ?_
  refine aw_iload_n (npc := 5) rfl dX0_standsAsNumber_4 rfl ?_
  refine aw_iconst (npc := 6) (v := 4) (by decide) dX0_standsAsNumber_5 rfl ?_
  refine aw_icmp_ge (npc := 9) (tgt := 27) dX0_standsAsNumber_6 rfl (by decide) (fun hc => absurd hc (by decide)) (fun _ => ?_)
  refine aw_iload_n (npc := 10) rfl dX0_standsAsNumber_9 rfl ?_
  refine aw_bipush (npc := 12) (v := 10) (by decide) dX0_standsAsNumber_10 rfl ?_
  refine aw_imulV (npc := 13) (v := 0) dX0_standsAsNumber_12 rfl (by decide) ?_
  refine aw_aload_n (npc := 14) rfl dX0_standsAsNumber_13 rfl ?_
  refine aw_get (npc := 17) dX0_standsAsNumber_14 rfl kf_X0_9 F.1 rfl ?_
  refine aw_iload_n (npc := 18) rfl dX0_standsAsNumber_17 rfl ?_
  refine aw_iald (npc := 19) (x := N 8) (j := 0) dX0_standsAsNumber_18 rfl F.2.1 ⟨by decide, by decide⟩ (tl_at (by omega)) ?_
  refine aw_iadd (npc := 20) dX0_standsAsNumber_19 rfl ?_
  refine aw_istore_n (npc := 21) (L' := [some (.ref b), some (.int (0 + (N 8))), some (.int 0)]) dX0_standsAsNumber_20 rfl (by decide) rfl rfl ?_
  refine aw_iinc (npc := 24) (v := 1) (L' := [some (.ref b), some (.int (0 + (N 8))), some (.int 1)]) dX0_standsAsNumber_21 rfl rfl (by decide) (by decide) rfl rfl ?_
  refine aw_goto (npc := 4) dX0_standsAsNumber_24 (by decide) ?_
  refine aw_iload_n (npc := 5) rfl dX0_standsAsNumber_4 rfl ?_
  refine aw_iconst (npc := 6) (v := 4) (by decide) dX0_standsAsNumber_5 rfl ?_
  refine aw_icmp_ge (npc := 9) (tgt := 27) dX0_standsAsNumber_6 rfl (by decide) (fun hc => absurd hc (by decide)) (fun _ => ?_)
  refine aw_iload_n (npc := 10) rfl dX0_standsAsNumber_9 rfl ?_
  refine aw_bipush (npc := 12) (v := 10) (by decide) dX0_standsAsNumber_10 rfl ?_
  refine aw_imul (npc := 13) dX0_standsAsNumber_12 rfl ?_
  refine aw_aload_n (npc := 14) rfl dX0_standsAsNumber_13 rfl ?_
  refine aw_get (npc := 17) dX0_standsAsNumber_14 rfl kf_X0_9 F.1 rfl ?_
  refine aw_iload_n (npc := 18) rfl dX0_standsAsNumber_17 rfl ?_
  refine aw_iald (npc := 19) (x := N 9) (j := 1) dX0_standsAsNumber_18 rfl F.2.1 ⟨by decide, by decide⟩ (tl_at (by omega)) ?_
  refine aw_iadd (npc := 20) dX0_standsAsNumber_19 rfl ?_
  refine aw_istore_n (npc := 21) (L' := [some (.ref b), some (.int (((0 + (N 8)) * 10) + (N 9))), some (.int 1)]) dX0_standsAsNumber_20 rfl (by decide) rfl rfl ?_
  refine aw_iinc (npc := 24) (v := 2) (L' := [some (.ref b), some (.int (((0 + (N 8)) * 10) + (N 9))), some (.int 2)]) dX0_standsAsNumber_21 rfl rfl (by decide) (by decide) rfl rfl ?_
  refine aw_goto (npc := 4) dX0_standsAsNumber_24 (by decide) ?_
  refine aw_iload_n (npc := 5) rfl dX0_standsAsNumber_4 rfl ?_
  refine aw_iconst (npc := 6) (v := 4) (by decide) dX0_standsAsNumber_5 rfl ?_
  refine aw_icmp_ge (npc := 9) (tgt := 27) dX0_standsAsNumber_6 rfl (by decide) (fun hc => absurd hc (by decide)) (fun _ => ?_)
  refine aw_iload_n (npc := 10) rfl dX0_standsAsNumber_9 rfl ?_
  refine aw_bipush (npc := 12) (v := 10) (by decide) dX0_standsAsNumber_10 rfl ?_
  refine aw_imul (npc := 13) dX0_standsAsNumber_12 rfl ?_
  refine aw_aload_n (npc := 14) rfl dX0_standsAsNumber_13 rfl ?_
  refine aw_get (npc := 17) dX0_standsAsNumber_14 rfl kf_X0_9 F.1 rfl ?_
  refine aw_iload_n (npc := 18) rfl dX0_standsAsNumber_17 rfl ?_
  refine aw_iald (npc := 19) (x := N 10) (j := 2) dX0_standsAsNumber_18 rfl F.2.1 ⟨by decide, by decide⟩ (tl_at (by omega)) ?_
  refine aw_iadd (npc := 20) dX0_standsAsNumber_19 rfl ?_
  refine aw_istore_n (npc := 21) (L' := [some (.ref b), some (.int (((((0 + (N 8)) * 10) + (N 9)) * 10) + (N 10))), some (.int 2)]) dX0_standsAsNumber_20 rfl (by decide) rfl rfl ?_
  refine aw_iinc (npc := 24) (v := 3) (L' := [some (.ref b), some (.int (((((0 + (N 8)) * 10) + (N 9)) * 10) + (N 10))), some (.int 3)]) dX0_standsAsNumber_21 rfl rfl (by decide) (by decide) rfl rfl ?_
  refine aw_goto (npc := 4) dX0_standsAsNumber_24 (by decide) ?_
  refine aw_iload_n (npc := 5) rfl dX0_standsAsNumber_4 rfl ?_
  refine aw_iconst (npc := 6) (v := 4) (by decide) dX0_standsAsNumber_5 rfl ?_
  refine aw_icmp_ge (npc := 9) (tgt := 27) dX0_standsAsNumber_6 rfl (by decide) (fun hc => absurd hc (by decide)) (fun _ => ?_)
  refine aw_iload_n (npc := 10) rfl dX0_standsAsNumber_9 rfl ?_
  refine aw_bipush (npc := 12) (v := 10) (by decide) dX0_standsAsNumber_10 rfl ?_
  refine aw_imul (npc := 13) dX0_standsAsNumber_12 rfl ?_
  refine aw_aload_n (npc := 14) rfl dX0_standsAsNumber_13 rfl ?_
  refine aw_get (npc := 17) dX0_standsAsNumber_14 rfl kf_X0_9 F.1 rfl ?_
  refine aw_iload_n (npc := 18) rfl dX0_standsAsNumber_17 rfl ?_
  refine aw_iald (npc := 19) (x := N 11) (j := 3) dX0_standsAsNumber_18 rfl F.2.1 ⟨by decide, by decide⟩ (tl_at (by omega)) ?_
  refine aw_iadd (npc := 20) dX0_standsAsNumber_19 rfl ?_
  refine aw_istore_n (npc := 21) (L' := [some (.ref b), some (.int (((((((0 + (N 8)) * 10) + (N 9)) * 10) + (N 10)) * 10) + (N 11))), some (.int 3)]) dX0_standsAsNumber_20 rfl (by decide) rfl rfl ?_
  refine aw_iinc (npc := 24) (v := 4) (L' := [some (.ref b), some (.int (((((((0 + (N 8)) * 10) + (N 9)) * 10) + (N 10)) * 10) + (N 11))), some (.int 4)]) dX0_standsAsNumber_21 rfl rfl (by decide) (by decide) rfl rfl ?_
  refine aw_goto (npc := 4) dX0_standsAsNumber_24 (by decide) ?_
  refine aw_iload_n (npc := 5) rfl dX0_standsAsNumber_4 rfl ?_
  refine aw_iconst (npc := 6) (v := 4) (by decide) dX0_standsAsNumber_5 rfl ?_
  refine aw_icmp_ge (npc := 9) (tgt := 27) dX0_standsAsNumber_6 rfl (by decide) (fun _ => ?_) (fun hc => absurd (by decide) hc)
  refine aw_iload_n (npc := 28) rfl dX0_standsAsNumber_27 rfl ?_
  refine aw_iret rfl dX0_standsAsNumber_28 ?_
  exact hq
set_option maxHeartbeats 4000000 in
set_option maxRecDepth 100000 in
theorem g_addFriend {X : List Int32} {d rc rs n : Nat} {Q : am_Q} {b : Nat} {N : Nat → Int32} {tx : List Value} {lk mv : Nat → Int32} {h : am_H} {f : Nat} {k s p : Int32} (F : QR b N tx lk mv h) (hF : N 1 = nI f) (hf : f < 8) (hq : ∀ h9, QR b (addN N f k s p) tx lk mv h9 → am_fb b (b + 12) h9 h → Q none n h9) : AW X mX0_addFriend (d + 0) rc rs 0 [some (.ref b), some (.int k), some (.int s), some (.int p)] [] n h Q := by
  refine aw_aload_n (npc := 1) rfl dX0_addFriend_0 rfl ?_
  refine aw_get (npc := 4) dX0_addFriend_1 rfl kf_X0_40 F.1 rfl ?_
  refine aw_top (y := nI f) (hF) ?_
  refine aw_bipush (npc := 6) (v := 8) (by decide) dX0_addFriend_4 rfl ?_
  refine aw_icmp_lt (npc := 9) (tgt := 10) dX0_addFriend_6 rfl (by decide) (fun _ => ?_) (fun hc => absurd (nI_lt (a := f) (b := 8) (by omega) (by omega)) hc)
  refine aw_aload_n (npc := 11) rfl dX0_addFriend_10 rfl ?_
  refine aw_get (npc := 14) dX0_addFriend_11 rfl kf_X0_43 F.1 rfl ?_
  refine aw_aload_n (npc := 15) rfl dX0_addFriend_14 rfl ?_
  refine aw_get (npc := 18) dX0_addFriend_15 rfl kf_X0_40 F.1 rfl ?_
  refine aw_top (y := nI f) (hF) ?_
  refine aw_iload_n (npc := 19) rfl dX0_addFriend_18 rfl ?_
  refine aw_iast (npc := 20) (j := f) dX0_addFriend_19 rfl F.2.2.2.2.1 (am_ix_nI (by omega)) (by rw [tl_len]; omega) rfl ?_
  have F2 := qr_kind (j := f) (v := k) F (by omega)
  refine aw_aload_n (npc := 21) rfl dX0_addFriend_20 rfl ?_
  refine aw_get (npc := 24) dX0_addFriend_21 rfl kf_X0_46 F2.1 rfl ?_
  refine aw_aload_n (npc := 25) rfl dX0_addFriend_24 rfl ?_
  refine aw_get (npc := 28) dX0_addFriend_25 rfl kf_X0_40 F2.1 rfl ?_
  refine aw_top (y := N 1) ((pk_un (by omega))) ?_
  refine aw_top (y := nI f) (hF) ?_
  refine aw_iload_n (npc := 29) rfl dX0_addFriend_28 rfl ?_
  refine aw_iast (npc := 30) (j := f) dX0_addFriend_29 rfl F2.2.2.2.2.2.1 (am_ix_nI (by omega)) (by rw [tl_len]; omega) rfl ?_
  have F3 := qr_side (j := f) (v := s) F2 (by omega)
  refine aw_aload_n (npc := 31) rfl dX0_addFriend_30 rfl ?_
  refine aw_get (npc := 34) dX0_addFriend_31 rfl kf_X0_49 F3.1 rfl ?_
  refine aw_aload_n (npc := 35) rfl dX0_addFriend_34 rfl ?_
  refine aw_get (npc := 38) dX0_addFriend_35 rfl kf_X0_40 F3.1 rfl ?_
  refine aw_top (y := N 1) (((pk_un (by omega))).trans (pk_un (by omega))) ?_
  refine aw_top (y := nI f) (hF) ?_
  refine aw_iload_n (npc := 39) rfl dX0_addFriend_38 rfl ?_
  refine aw_iast (npc := 40) (j := f) dX0_addFriend_39 rfl F3.2.2.2.2.2.2.1 (am_ix_nI (by omega)) (by rw [tl_len]; omega) rfl ?_
  have F4 := qr_pride (j := f) (v := p) F3 (by omega)
  refine aw_aload_n (npc := 41) rfl dX0_addFriend_40 rfl ?_
  refine aw_get (npc := 44) dX0_addFriend_41 rfl kf_X0_52 F4.1 rfl ?_
  refine aw_aload_n (npc := 45) rfl dX0_addFriend_44 rfl ?_
  refine aw_get (npc := 48) dX0_addFriend_45 rfl kf_X0_40 F4.1 rfl ?_
  refine aw_top (y := N 1) ((((pk_un (by omega))).trans (pk_un (by omega))).trans (pk_un (by omega))) ?_
  refine aw_top (y := nI f) (hF) ?_
  refine aw_iconst (npc := 49) (v := 0) (by decide) dX0_addFriend_48 rfl ?_
  refine aw_iast (npc := 50) (j := f) dX0_addFriend_49 rfl F4.2.2.2.2.2.2.2.1 (am_ix_nI (by omega)) (by rw [tl_len]; omega) rfl ?_
  have F5 := qr_sent (j := f) (v := 0) F4 (by omega)
  refine aw_aload_n (npc := 51) rfl dX0_addFriend_50 rfl ?_
  refine aw_get (npc := 54) dX0_addFriend_51 rfl kf_X0_55 F5.1 rfl ?_
  refine aw_aload_n (npc := 55) rfl dX0_addFriend_54 rfl ?_
  refine aw_get (npc := 58) dX0_addFriend_55 rfl kf_X0_40 F5.1 rfl ?_
  refine aw_top (y := N 1) (((((pk_un (by omega))).trans (pk_un (by omega))).trans (pk_un (by omega))).trans (pk_un (by omega))) ?_
  refine aw_top (y := nI f) (hF) ?_
  refine aw_iconst (npc := 59) (v := 0) (by decide) dX0_addFriend_58 rfl ?_
  refine aw_iast (npc := 60) (j := f) dX0_addFriend_59 rfl F5.2.2.2.2.2.2.2.2.1 (am_ix_nI (by omega)) (by rw [tl_len]; omega) rfl ?_
  have F6 := qr_yield (j := f) (v := 0) F5 (by omega)
  refine aw_aload_n (npc := 61) rfl dX0_addFriend_60 rfl ?_
  refine aw_dup (npc := 62) rfl dX0_addFriend_61 rfl ?_
  refine aw_get (npc := 65) dX0_addFriend_62 rfl kf_X0_40 F6.1 rfl ?_
  refine aw_top (y := N 1) ((((((pk_un (by omega))).trans (pk_un (by omega))).trans (pk_un (by omega))).trans (pk_un (by omega))).trans (pk_un (by omega))) ?_
  refine aw_top (y := nI f) (hF) ?_
  refine aw_iconst (npc := 66) (v := 1) (by decide) dX0_addFriend_65 rfl ?_
  refine aw_iaddV (npc := 67) (v := nI (f + 1)) dX0_addFriend_66 rfl (nI_1 f) ?_
  refine aw_put (npc := 70) dX0_addFriend_67 rfl kf_X0_40 F6.1 (Nat.le_of_ble_eq_true rfl) (am_ok_int _) rfl ?_
  have F7 := qr_friends (v := nI (f + 1)) F6
  refine aw_vret rfl dX0_addFriend_70 ?_
  exact hq _ F7 (am_fbU (by omega) (am_fbU (by omega) (am_fbU (by omega) (am_fbU (by omega) (am_fbU (by omega) (am_fbU (by omega) am_fb0))))))
