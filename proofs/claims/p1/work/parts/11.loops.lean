def am_fb (lo hi : Nat) (h' h : am_H) : Prop := ∀ k, (k < lo ∨ hi ≤ k) → h' k = h k
theorem am_fb0 {lo hi : Nat} {h : am_H} : am_fb lo hi h h := fun _ _ => rfl
theorem am_fbU {lo hi a : Nat} {h h' : am_H} {c : am_AC} (ha : lo ≤ a ∧ a < hi) (hf : am_fb lo hi h' h) : am_fb lo hi (am_up h' a c) h := fun k hk => by
  rw [am_nE (by omega)]
  exact hf k hk
theorem am_fbT {lo hi : Nat} {h h' h'' : am_H} (h1 : am_fb lo hi h'' h') (h2 : am_fb lo hi h' h) : am_fb lo hi h'' h := fun k hk => (h1 k hk).trans (h2 k hk)
theorem am_fbW {lo hi lo' hi' : Nat} {h h' : am_H} (hl : lo' ≤ lo ∧ hi ≤ hi') (h1 : am_fb lo hi h' h) : am_fb lo' hi' h' h := fun k hk => h1 k (by omega)
theorem am_fb.fr {lo hi B : Nat} {h h' : am_H} (hB : hi ≤ B) (h1 : am_fb lo hi h' h) : am_fr B h' h := fun k hk => h1 k (Or.inr (Nat.le_trans hB hk))
theorem wi_ge0 {x hi : Int32} (h : wi x 0 hi) : 0 ≤ x := Int32.not_lt.mp h.1
theorem wi_nI {x lo hi : Int32} {H : Nat} (hH : hi.toInt = H) (hl : 0 ≤ lo) (h : wi x lo hi) : ∃ N : Nat, N ≤ H ∧ x = nI N := by
  refine nI_of2 hH (fun q => h.1 ?_) (Int32.not_lt.mp h.2)
  have a := Int32.lt_iff_toInt_lt.mp q
  have b := Int32.le_iff_toInt_le.mp hl
  exact Int32.lt_iff_toInt_lt.mpr (by have z : (0 : Int32).toInt = 0 := rfl; omega)
def fq1 (hv pt : Int32) (h : am_H) : Prop := h 1 = some (.inr (0, [.ref 2, .ref 3, .ref 4, .int hv, .int 60, .int 10, .int 0, .int pt, .int 1, .int 0, .ref 5, .ref 6, .ref 7, .ref 8, .ref 9, .ref 10, .int 0, .ref 11, .ref 12])) ∧ h 2 = some (.inl (0, [5, 5, 5, 5])) ∧ h 3 = some (.inl (0, [1, 1, 1, 1, 1, 1, 1, 1])) ∧ h 4 = some (.inl (0, [20, 20])) ∧ h 5 = some (.inl (0, [0, 0, 0, 0, 0, 0, 0, 0])) ∧ h 6 = some (.inl (0, [0, 0, 0, 0, 0, 0, 0, 0])) ∧ h 7 = some (.inl (0, [0, 0, 0, 0, 0, 0, 0, 0])) ∧ h 8 = some (.inl (0, [0, 0, 0, 0, 0, 0, 0, 0])) ∧ h 9 = some (.inl (0, [0, 0, 0, 0, 0, 0, 0, 0])) ∧ h 10 = some (.inr (15, [.null, .null, .null, .null, .null, .null, .null, .null, .null, .null, .null, .null, .null, .null])) ∧ h 11 = some (.inl (0, [(-1), (-1), (-1)])) ∧ h 12 = some (.inl (0, [0, 0, 0, 0]))
def fq13 (hv pt : Int32) (h : am_H) : Prop := h 13 = some (.inr (0, [.ref 14, .ref 15, .ref 16, .int hv, .int 60, .int 10, .int 0, .int pt, .int 1, .int 0, .ref 17, .ref 18, .ref 19, .ref 20, .ref 21, .ref 22, .int 0, .ref 23, .ref 24])) ∧ h 14 = some (.inl (0, [5, 5, 5, 5])) ∧ h 15 = some (.inl (0, [1, 1, 1, 1, 1, 1, 1, 1])) ∧ h 16 = some (.inl (0, [20, 20])) ∧ h 17 = some (.inl (0, [0, 0, 0, 0, 0, 0, 0, 0])) ∧ h 18 = some (.inl (0, [0, 0, 0, 0, 0, 0, 0, 0])) ∧ h 19 = some (.inl (0, [0, 0, 0, 0, 0, 0, 0, 0])) ∧ h 20 = some (.inl (0, [0, 0, 0, 0, 0, 0, 0, 0])) ∧ h 21 = some (.inl (0, [0, 0, 0, 0, 0, 0, 0, 0])) ∧ h 22 = some (.inr (15, [.null, .null, .null, .null, .null, .null, .null, .null, .null, .null, .null, .null, .null, .null])) ∧ h 23 = some (.inl (0, [(-1), (-1), (-1)])) ∧ h 24 = some (.inl (0, [0, 0, 0, 0]))
def fq25 (hv pt : Int32) (h : am_H) : Prop := h 25 = some (.inr (0, [.ref 26, .ref 27, .ref 28, .int hv, .int 60, .int 10, .int 0, .int pt, .int 1, .int 0, .ref 29, .ref 30, .ref 31, .ref 32, .ref 33, .ref 34, .int 0, .ref 35, .ref 36])) ∧ h 26 = some (.inl (0, [5, 5, 5, 5])) ∧ h 27 = some (.inl (0, [1, 1, 1, 1, 1, 1, 1, 1])) ∧ h 28 = some (.inl (0, [20, 20])) ∧ h 29 = some (.inl (0, [0, 0, 0, 0, 0, 0, 0, 0])) ∧ h 30 = some (.inl (0, [0, 0, 0, 0, 0, 0, 0, 0])) ∧ h 31 = some (.inl (0, [0, 0, 0, 0, 0, 0, 0, 0])) ∧ h 32 = some (.inl (0, [0, 0, 0, 0, 0, 0, 0, 0])) ∧ h 33 = some (.inl (0, [0, 0, 0, 0, 0, 0, 0, 0])) ∧ h 34 = some (.inr (15, [.null, .null, .null, .null, .null, .null, .null, .null, .null, .null, .null, .null, .null, .null])) ∧ h 35 = some (.inl (0, [(-1), (-1), (-1)])) ∧ h 36 = some (.inl (0, [0, 0, 0, 0]))
set_option maxHeartbeats 40000000 in
set_option maxRecDepth 100000 in
theorem p_runL_1 {X : List Int32} {d rc rs nn : Nat} {Q : am_Q} {hv pt wo : Int32} (hh : wi hv 0 99) (N : Nat) (hN : N < 1000) : ∀ (m j : Nat), j + m = N → ∀ (h : am_H), fq1 hv pt h → (∀ (i : Int32) (h9 : am_H), fq1 hv pt h9 → am_fb 1 13 h9 h → AW X mX0_runPosts (d + 8) rc rs 39 [some (.ref 1), some (.int (nI N)), some (.int wo), some (.int 0), some (.int i)] [] nn h9 Q) → AW X mX0_runPosts (d + 8) rc rs 5 [some (.ref 1), some (.int (nI N)), some (.int wo), some (.int 0), some (.int (nI j))] [] nn h Q := by
  intro m
  induction m with
  | zero =>
    intro j hj h F hx
    obtain rfl : j = N := by omega
    refine aw_iload (npc := 7) rfl dX0_runPosts_5 rfl ?_
    refine aw_iload_n (npc := 8) rfl dX0_runPosts_7 rfl ?_
    exact aw_icmp_ge (npc := 11) (tgt := 39) dX0_runPosts_8 rfl (by decide) (fun _ => hx _ h F am_fb0) (fun hc => absurd (nI_le (Nat.le_refl _) (by omega)) hc)
  | succ m ih =>
    intro j hj h F hx
    obtain ⟨f1, f2, f3, f4, f5, f6, f7, f8, f9, f10, f11, f12⟩ := F
    refine aw_iload (npc := 7) rfl dX0_runPosts_5 rfl ?_
    refine aw_iload_n (npc := 8) rfl dX0_runPosts_7 rfl ?_
    refine aw_icmp_ge (npc := 11) (tgt := 39) dX0_runPosts_8 rfl (by decide) (fun hc => absurd hc (nI_ge (by omega) (by omega))) (fun _ => ?_)
    refine aw_aload_n (npc := 12) rfl dX0_runPosts_11 rfl ?_
    refine aw_callV (npc := 15) (N := mX0_isPeace) (b := 1) (mc := 0) (ms := 0) (A := []) (S := []) (L0 := [some (.ref 1)]) dX0_runPosts_12 rfl km_X0_isPeace kk_X0_117 f1 ⟨by decide, rfl⟩ rfl ⟨rfl, by decide⟩ rfl (Nat.le_of_ble_eq_true rfl) (Nat.zero_add _) (Nat.zero_add _) rfl ?_
    refine aw_aload_n (npc := 1) rfl dX0_isPeace_0 rfl ?_
    refine aw_iconst (npc := 2) (v := 0) (by decide) dX0_isPeace_1 rfl ?_
    refine aw_callV (npc := 5) (N := mX0_hasOf) (b := 1) (mc := 0) (ms := 0) (A := [.int 0]) (S := []) (L0 := [some (.ref 1), some (.int 0), none, none, none]) dX0_isPeace_2 rfl km_X0_hasOf kk_X0_91 f1 ⟨by decide, rfl⟩ rfl ⟨rfl, by decide⟩ rfl (Nat.le_of_ble_eq_true rfl) (Nat.zero_add _) (Nat.zero_add _) rfl ?_
    refine aw_iconst (npc := 1) (v := 0) (by decide) dX0_hasOf_0 rfl ?_
    refine aw_istore_n (npc := 2) (L' := [some (.ref 1), some (.int 0), some (.int 0), none, none]) dX0_hasOf_1 rfl (by decide) rfl rfl ?_
    refine aw_iconst (npc := 3) (v := 0) (by decide) dX0_hasOf_2 rfl ?_
    refine aw_istore_n (npc := 4) (L' := [some (.ref 1), some (.int 0), some (.int 0), some (.int 0), none]) dX0_hasOf_3 rfl (by decide) rfl rfl ?_
    refine aw_iload_n (npc := 5) rfl dX0_hasOf_4 rfl ?_
    refine aw_iconst (npc := 6) (v := 4) (by decide) dX0_hasOf_5 rfl ?_
    refine aw_icmp_ge (npc := 9) (tgt := 55) dX0_hasOf_6 rfl (by decide) (fun hc => absurd hc (by decide)) (fun _ => ?_)
    refine aw_iload_n (npc := 10) rfl dX0_hasOf_9 rfl ?_
    refine aw_if_ne (npc := 13) (tgt := 22) dX0_hasOf_10 rfl (by decide) (fun hc => absurd (by decide) hc) (fun _ => ?_)
    refine aw_aload_n (npc := 14) rfl dX0_hasOf_13 rfl ?_
    refine aw_get (npc := 17) dX0_hasOf_14 rfl kf_X0_9 f1 rfl ?_
    refine aw_iload_n (npc := 18) rfl dX0_hasOf_17 rfl ?_
    refine aw_iald (npc := 19) (x := 5) (j := 0) dX0_hasOf_18 rfl f2 ⟨by decide, by decide⟩ rfl ?_
    refine aw_goto (npc := 31) dX0_hasOf_19 (by decide) ?_
    refine aw_istore (npc := 33) (L' := [some (.ref 1), some (.int 0), some (.int 0), some (.int 0), some (.int 5)]) dX0_hasOf_31 rfl (by decide) rfl rfl ?_
    refine aw_iload_n (npc := 34) rfl dX0_hasOf_33 rfl ?_
    refine aw_aload_n (npc := 35) rfl dX0_hasOf_34 rfl ?_
    refine aw_get (npc := 38) dX0_hasOf_35 rfl kf_X0_15 f1 rfl ?_
    refine aw_iload_n (npc := 39) rfl dX0_hasOf_38 rfl ?_
    refine aw_iload_n (npc := 40) rfl dX0_hasOf_39 rfl ?_
    refine aw_callSN (npc := 43) (N := mX7_carePlace) (mc := 0) (ms := 0) (A := [.int 0, .int 0]) (S := [.ref 3, .int 0]) (L0 := [some (.int 0), some (.int 0)]) dX0_hasOf_40 rfl km_X7_carePlace kk_X0_87 rfl ⟨rfl, by decide⟩ rfl (Nat.le_of_ble_eq_true rfl) (Nat.zero_add _) (Nat.zero_add _) rfl ?_
    refine aw_iload_n (npc := 1) rfl dX7_carePlace_0 rfl ?_
    refine aw_iconst (npc := 2) (v := 4) (by decide) dX7_carePlace_1 rfl ?_
    refine aw_imulV (npc := 3) (v := 0) dX7_carePlace_2 rfl (by decide) ?_
    refine aw_iload_n (npc := 4) rfl dX7_carePlace_3 rfl ?_
    refine aw_iaddV (npc := 5) (v := 0) dX7_carePlace_4 rfl (by decide) ?_
    refine aw_iret rfl dX7_carePlace_5 ?_
    refine aw_re (S' := [.int 0, .ref 3, .int 0]) rfl ?_
    refine aw_iald (npc := 44) (x := 1) (j := 0) dX0_hasOf_43 rfl f3 ⟨by decide, by decide⟩ rfl ?_
    refine aw_iload (npc := 46) rfl dX0_hasOf_44 rfl ?_
    refine aw_imulV (npc := 47) (v := 5) dX0_hasOf_46 rfl (by decide) ?_
    refine aw_iaddV (npc := 48) (v := 5) dX0_hasOf_47 rfl (by decide) ?_
    refine aw_istore_n (npc := 49) (L' := [some (.ref 1), some (.int 0), some (.int 5), some (.int 0), some (.int 5)]) dX0_hasOf_48 rfl (by decide) rfl rfl ?_
    refine aw_iinc (npc := 52) (v := 1) (L' := [some (.ref 1), some (.int 0), some (.int 5), some (.int 1), some (.int 5)]) dX0_hasOf_49 rfl rfl (by decide) (by decide) rfl rfl ?_
    refine aw_goto (npc := 4) dX0_hasOf_52 (by decide) ?_
    refine aw_iload_n (npc := 5) rfl dX0_hasOf_4 rfl ?_
    refine aw_iconst (npc := 6) (v := 4) (by decide) dX0_hasOf_5 rfl ?_
    refine aw_icmp_ge (npc := 9) (tgt := 55) dX0_hasOf_6 rfl (by decide) (fun hc => absurd hc (by decide)) (fun _ => ?_)
    refine aw_iload_n (npc := 10) rfl dX0_hasOf_9 rfl ?_
    refine aw_if_ne (npc := 13) (tgt := 22) dX0_hasOf_10 rfl (by decide) (fun hc => absurd (by decide) hc) (fun _ => ?_)
    refine aw_aload_n (npc := 14) rfl dX0_hasOf_13 rfl ?_
    refine aw_get (npc := 17) dX0_hasOf_14 rfl kf_X0_9 f1 rfl ?_
    refine aw_iload_n (npc := 18) rfl dX0_hasOf_17 rfl ?_
    refine aw_iald (npc := 19) (x := 5) (j := 1) dX0_hasOf_18 rfl f2 ⟨by decide, by decide⟩ rfl ?_
    refine aw_goto (npc := 31) dX0_hasOf_19 (by decide) ?_
    refine aw_istore (npc := 33) (L' := [some (.ref 1), some (.int 0), some (.int 5), some (.int 1), some (.int 5)]) dX0_hasOf_31 rfl (by decide) rfl rfl ?_
    refine aw_iload_n (npc := 34) rfl dX0_hasOf_33 rfl ?_
    refine aw_aload_n (npc := 35) rfl dX0_hasOf_34 rfl ?_
    refine aw_get (npc := 38) dX0_hasOf_35 rfl kf_X0_15 f1 rfl ?_
    refine aw_iload_n (npc := 39) rfl dX0_hasOf_38 rfl ?_
    refine aw_iload_n (npc := 40) rfl dX0_hasOf_39 rfl ?_
    refine aw_callSN (npc := 43) (N := mX7_carePlace) (mc := 0) (ms := 0) (A := [.int 0, .int 1]) (S := [.ref 3, .int 5]) (L0 := [some (.int 0), some (.int 1)]) dX0_hasOf_40 rfl km_X7_carePlace kk_X0_87 rfl ⟨rfl, by decide⟩ rfl (Nat.le_of_ble_eq_true rfl) (Nat.zero_add _) (Nat.zero_add _) rfl ?_
    refine aw_iload_n (npc := 1) rfl dX7_carePlace_0 rfl ?_
    refine aw_iconst (npc := 2) (v := 4) (by decide) dX7_carePlace_1 rfl ?_
    refine aw_imulV (npc := 3) (v := 0) dX7_carePlace_2 rfl (by decide) ?_
    refine aw_iload_n (npc := 4) rfl dX7_carePlace_3 rfl ?_
    refine aw_iaddV (npc := 5) (v := 1) dX7_carePlace_4 rfl (by decide) ?_
    refine aw_iret rfl dX7_carePlace_5 ?_
    refine aw_re (S' := [.int 1, .ref 3, .int 5]) rfl ?_
    refine aw_iald (npc := 44) (x := 1) (j := 1) dX0_hasOf_43 rfl f3 ⟨by decide, by decide⟩ rfl ?_
    refine aw_iload (npc := 46) rfl dX0_hasOf_44 rfl ?_
    refine aw_imulV (npc := 47) (v := 5) dX0_hasOf_46 rfl (by decide) ?_
    refine aw_iaddV (npc := 48) (v := 10) dX0_hasOf_47 rfl (by decide) ?_
    refine aw_istore_n (npc := 49) (L' := [some (.ref 1), some (.int 0), some (.int 10), some (.int 1), some (.int 5)]) dX0_hasOf_48 rfl (by decide) rfl rfl ?_
    refine aw_iinc (npc := 52) (v := 2) (L' := [some (.ref 1), some (.int 0), some (.int 10), some (.int 2), some (.int 5)]) dX0_hasOf_49 rfl rfl (by decide) (by decide) rfl rfl ?_
    refine aw_goto (npc := 4) dX0_hasOf_52 (by decide) ?_
    refine aw_iload_n (npc := 5) rfl dX0_hasOf_4 rfl ?_
    refine aw_iconst (npc := 6) (v := 4) (by decide) dX0_hasOf_5 rfl ?_
    refine aw_icmp_ge (npc := 9) (tgt := 55) dX0_hasOf_6 rfl (by decide) (fun hc => absurd hc (by decide)) (fun _ => ?_)
    refine aw_iload_n (npc := 10) rfl dX0_hasOf_9 rfl ?_
    refine aw_if_ne (npc := 13) (tgt := 22) dX0_hasOf_10 rfl (by decide) (fun hc => absurd (by decide) hc) (fun _ => ?_)
    refine aw_aload_n (npc := 14) rfl dX0_hasOf_13 rfl ?_
    refine aw_get (npc := 17) dX0_hasOf_14 rfl kf_X0_9 f1 rfl ?_
    refine aw_iload_n (npc := 18) rfl dX0_hasOf_17 rfl ?_
    refine aw_iald (npc := 19) (x := 5) (j := 2) dX0_hasOf_18 rfl f2 ⟨by decide, by decide⟩ rfl ?_
    refine aw_goto (npc := 31) dX0_hasOf_19 (by decide) ?_
    refine aw_istore (npc := 33) (L' := [some (.ref 1), some (.int 0), some (.int 10), some (.int 2), some (.int 5)]) dX0_hasOf_31 rfl (by decide) rfl rfl ?_
    refine aw_iload_n (npc := 34) rfl dX0_hasOf_33 rfl ?_
    refine aw_aload_n (npc := 35) rfl dX0_hasOf_34 rfl ?_
    refine aw_get (npc := 38) dX0_hasOf_35 rfl kf_X0_15 f1 rfl ?_
    refine aw_iload_n (npc := 39) rfl dX0_hasOf_38 rfl ?_
    refine aw_iload_n (npc := 40) rfl dX0_hasOf_39 rfl ?_
    refine aw_callSN (npc := 43) (N := mX7_carePlace) (mc := 0) (ms := 0) (A := [.int 0, .int 2]) (S := [.ref 3, .int 10]) (L0 := [some (.int 0), some (.int 2)]) dX0_hasOf_40 rfl km_X7_carePlace kk_X0_87 rfl ⟨rfl, by decide⟩ rfl (Nat.le_of_ble_eq_true rfl) (Nat.zero_add _) (Nat.zero_add _) rfl ?_
    refine aw_iload_n (npc := 1) rfl dX7_carePlace_0 rfl ?_
    refine aw_iconst (npc := 2) (v := 4) (by decide) dX7_carePlace_1 rfl ?_
    refine aw_imulV (npc := 3) (v := 0) dX7_carePlace_2 rfl (by decide) ?_
    refine aw_iload_n (npc := 4) rfl dX7_carePlace_3 rfl ?_
    refine aw_iaddV (npc := 5) (v := 2) dX7_carePlace_4 rfl (by decide) ?_
    refine aw_iret rfl dX7_carePlace_5 ?_
    refine aw_re (S' := [.int 2, .ref 3, .int 10]) rfl ?_
    refine aw_iald (npc := 44) (x := 1) (j := 2) dX0_hasOf_43 rfl f3 ⟨by decide, by decide⟩ rfl ?_
    refine aw_iload (npc := 46) rfl dX0_hasOf_44 rfl ?_
    refine aw_imulV (npc := 47) (v := 5) dX0_hasOf_46 rfl (by decide) ?_
    refine aw_iaddV (npc := 48) (v := 15) dX0_hasOf_47 rfl (by decide) ?_
    refine aw_istore_n (npc := 49) (L' := [some (.ref 1), some (.int 0), some (.int 15), some (.int 2), some (.int 5)]) dX0_hasOf_48 rfl (by decide) rfl rfl ?_
    refine aw_iinc (npc := 52) (v := 3) (L' := [some (.ref 1), some (.int 0), some (.int 15), some (.int 3), some (.int 5)]) dX0_hasOf_49 rfl rfl (by decide) (by decide) rfl rfl ?_
    refine aw_goto (npc := 4) dX0_hasOf_52 (by decide) ?_
    refine aw_iload_n (npc := 5) rfl dX0_hasOf_4 rfl ?_
    refine aw_iconst (npc := 6) (v := 4) (by decide) dX0_hasOf_5 rfl ?_
    refine aw_icmp_ge (npc := 9) (tgt := 55) dX0_hasOf_6 rfl (by decide) (fun hc => absurd hc (by decide)) (fun _ => ?_)
    refine aw_iload_n (npc := 10) rfl dX0_hasOf_9 rfl ?_
    refine aw_if_ne (npc := 13) (tgt := 22) dX0_hasOf_10 rfl (by decide) (fun hc => absurd (by decide) hc) (fun _ => ?_)
    refine aw_aload_n (npc := 14) rfl dX0_hasOf_13 rfl ?_
    refine aw_get (npc := 17) dX0_hasOf_14 rfl kf_X0_9 f1 rfl ?_
    refine aw_iload_n (npc := 18) rfl dX0_hasOf_17 rfl ?_
    refine aw_iald (npc := 19) (x := 5) (j := 3) dX0_hasOf_18 rfl f2 ⟨by decide, by decide⟩ rfl ?_
    refine aw_goto (npc := 31) dX0_hasOf_19 (by decide) ?_
    refine aw_istore (npc := 33) (L' := [some (.ref 1), some (.int 0), some (.int 15), some (.int 3), some (.int 5)]) dX0_hasOf_31 rfl (by decide) rfl rfl ?_
    refine aw_iload_n (npc := 34) rfl dX0_hasOf_33 rfl ?_
    refine aw_aload_n (npc := 35) rfl dX0_hasOf_34 rfl ?_
    refine aw_get (npc := 38) dX0_hasOf_35 rfl kf_X0_15 f1 rfl ?_
    refine aw_iload_n (npc := 39) rfl dX0_hasOf_38 rfl ?_
    refine aw_iload_n (npc := 40) rfl dX0_hasOf_39 rfl ?_
    refine aw_callSN (npc := 43) (N := mX7_carePlace) (mc := 0) (ms := 0) (A := [.int 0, .int 3]) (S := [.ref 3, .int 15]) (L0 := [some (.int 0), some (.int 3)]) dX0_hasOf_40 rfl km_X7_carePlace kk_X0_87 rfl ⟨rfl, by decide⟩ rfl (Nat.le_of_ble_eq_true rfl) (Nat.zero_add _) (Nat.zero_add _) rfl ?_
    refine aw_iload_n (npc := 1) rfl dX7_carePlace_0 rfl ?_
    refine aw_iconst (npc := 2) (v := 4) (by decide) dX7_carePlace_1 rfl ?_
    refine aw_imulV (npc := 3) (v := 0) dX7_carePlace_2 rfl (by decide) ?_
    refine aw_iload_n (npc := 4) rfl dX7_carePlace_3 rfl ?_
    refine aw_iaddV (npc := 5) (v := 3) dX7_carePlace_4 rfl (by decide) ?_
    refine aw_iret rfl dX7_carePlace_5 ?_
    refine aw_re (S' := [.int 3, .ref 3, .int 15]) rfl ?_
    refine aw_iald (npc := 44) (x := 1) (j := 3) dX0_hasOf_43 rfl f3 ⟨by decide, by decide⟩ rfl ?_
    refine aw_iload (npc := 46) rfl dX0_hasOf_44 rfl ?_
    refine aw_imulV (npc := 47) (v := 5) dX0_hasOf_46 rfl (by decide) ?_
    refine aw_iaddV (npc := 48) (v := 20) dX0_hasOf_47 rfl (by decide) ?_
    refine aw_istore_n (npc := 49) (L' := [some (.ref 1), some (.int 0), some (.int 20), some (.int 3), some (.int 5)]) dX0_hasOf_48 rfl (by decide) rfl rfl ?_
    refine aw_iinc (npc := 52) (v := 4) (L' := [some (.ref 1), some (.int 0), some (.int 20), some (.int 4), some (.int 5)]) dX0_hasOf_49 rfl rfl (by decide) (by decide) rfl rfl ?_
    refine aw_goto (npc := 4) dX0_hasOf_52 (by decide) ?_
    refine aw_iload_n (npc := 5) rfl dX0_hasOf_4 rfl ?_
    refine aw_iconst (npc := 6) (v := 4) (by decide) dX0_hasOf_5 rfl ?_
    refine aw_icmp_ge (npc := 9) (tgt := 55) dX0_hasOf_6 rfl (by decide) (fun _ => ?_) (fun hc => absurd (by decide) hc)
    refine aw_iload_n (npc := 56) rfl dX0_hasOf_55 rfl ?_
    refine aw_iret rfl dX0_hasOf_56 ?_
    refine aw_re (S' := [.int 20]) rfl ?_
    refine aw_aload_n (npc := 6) rfl dX0_isPeace_5 rfl ?_
    refine aw_get (npc := 9) dX0_isPeace_6 rfl kf_X0_18 f1 rfl ?_
    refine aw_iconst (npc := 10) (v := 0) (by decide) dX0_isPeace_9 rfl ?_
    refine aw_iald (npc := 11) (x := 20) (j := 0) dX0_isPeace_10 rfl f4 ⟨by decide, by decide⟩ rfl ?_
    refine aw_icmp_lt (npc := 14) (tgt := 32) dX0_isPeace_11 rfl (by decide) (fun hc => absurd hc (by decide)) (fun _ => ?_)
    refine aw_aload_n (npc := 15) rfl dX0_isPeace_14 rfl ?_
    refine aw_iconst (npc := 16) (v := 1) (by decide) dX0_isPeace_15 rfl ?_
    refine aw_callV (npc := 19) (N := mX0_hasOf) (b := 1) (mc := 0) (ms := 0) (A := [.int 1]) (S := []) (L0 := [some (.ref 1), some (.int 1), none, none, none]) dX0_isPeace_16 rfl km_X0_hasOf kk_X0_91 f1 ⟨by decide, rfl⟩ rfl ⟨rfl, by decide⟩ rfl (Nat.le_of_ble_eq_true rfl) (Nat.zero_add _) (Nat.zero_add _) rfl ?_
    refine aw_iconst (npc := 1) (v := 0) (by decide) dX0_hasOf_0 rfl ?_
    refine aw_istore_n (npc := 2) (L' := [some (.ref 1), some (.int 1), some (.int 0), none, none]) dX0_hasOf_1 rfl (by decide) rfl rfl ?_
    refine aw_iconst (npc := 3) (v := 0) (by decide) dX0_hasOf_2 rfl ?_
    refine aw_istore_n (npc := 4) (L' := [some (.ref 1), some (.int 1), some (.int 0), some (.int 0), none]) dX0_hasOf_3 rfl (by decide) rfl rfl ?_
    refine aw_iload_n (npc := 5) rfl dX0_hasOf_4 rfl ?_
    refine aw_iconst (npc := 6) (v := 4) (by decide) dX0_hasOf_5 rfl ?_
    refine aw_icmp_ge (npc := 9) (tgt := 55) dX0_hasOf_6 rfl (by decide) (fun hc => absurd hc (by decide)) (fun _ => ?_)
    refine aw_iload_n (npc := 10) rfl dX0_hasOf_9 rfl ?_
    refine aw_if_ne (npc := 13) (tgt := 22) dX0_hasOf_10 rfl (by decide) (fun _ => ?_) (fun hc => absurd hc (by decide))
    refine aw_bipush (npc := 24) (v := 9) (by decide) dX0_hasOf_22 rfl ?_
    refine aw_aload_n (npc := 25) rfl dX0_hasOf_24 rfl ?_
    refine aw_get (npc := 28) dX0_hasOf_25 rfl kf_X0_9 f1 rfl ?_
    refine aw_iload_n (npc := 29) rfl dX0_hasOf_28 rfl ?_
    refine aw_iald (npc := 30) (x := 5) (j := 0) dX0_hasOf_29 rfl f2 ⟨by decide, by decide⟩ rfl ?_
    refine aw_isubV (npc := 31) (v := 4) dX0_hasOf_30 rfl (by decide) ?_
    refine aw_istore (npc := 33) (L' := [some (.ref 1), some (.int 1), some (.int 0), some (.int 0), some (.int 4)]) dX0_hasOf_31 rfl (by decide) rfl rfl ?_
    refine aw_iload_n (npc := 34) rfl dX0_hasOf_33 rfl ?_
    refine aw_aload_n (npc := 35) rfl dX0_hasOf_34 rfl ?_
    refine aw_get (npc := 38) dX0_hasOf_35 rfl kf_X0_15 f1 rfl ?_
    refine aw_iload_n (npc := 39) rfl dX0_hasOf_38 rfl ?_
    refine aw_iload_n (npc := 40) rfl dX0_hasOf_39 rfl ?_
    refine aw_callSN (npc := 43) (N := mX7_carePlace) (mc := 0) (ms := 0) (A := [.int 1, .int 0]) (S := [.ref 3, .int 0]) (L0 := [some (.int 1), some (.int 0)]) dX0_hasOf_40 rfl km_X7_carePlace kk_X0_87 rfl ⟨rfl, by decide⟩ rfl (Nat.le_of_ble_eq_true rfl) (Nat.zero_add _) (Nat.zero_add _) rfl ?_
    refine aw_iload_n (npc := 1) rfl dX7_carePlace_0 rfl ?_
    refine aw_iconst (npc := 2) (v := 4) (by decide) dX7_carePlace_1 rfl ?_
    refine aw_imulV (npc := 3) (v := 4) dX7_carePlace_2 rfl (by decide) ?_
    refine aw_iload_n (npc := 4) rfl dX7_carePlace_3 rfl ?_
    refine aw_iaddV (npc := 5) (v := 4) dX7_carePlace_4 rfl (by decide) ?_
    refine aw_iret rfl dX7_carePlace_5 ?_
    refine aw_re (S' := [.int 4, .ref 3, .int 0]) rfl ?_
    refine aw_iald (npc := 44) (x := 1) (j := 4) dX0_hasOf_43 rfl f3 ⟨by decide, by decide⟩ rfl ?_
    refine aw_iload (npc := 46) rfl dX0_hasOf_44 rfl ?_
    refine aw_imulV (npc := 47) (v := 4) dX0_hasOf_46 rfl (by decide) ?_
    refine aw_iaddV (npc := 48) (v := 4) dX0_hasOf_47 rfl (by decide) ?_
    refine aw_istore_n (npc := 49) (L' := [some (.ref 1), some (.int 1), some (.int 4), some (.int 0), some (.int 4)]) dX0_hasOf_48 rfl (by decide) rfl rfl ?_
    refine aw_iinc (npc := 52) (v := 1) (L' := [some (.ref 1), some (.int 1), some (.int 4), some (.int 1), some (.int 4)]) dX0_hasOf_49 rfl rfl (by decide) (by decide) rfl rfl ?_
    refine aw_goto (npc := 4) dX0_hasOf_52 (by decide) ?_
    refine aw_iload_n (npc := 5) rfl dX0_hasOf_4 rfl ?_
    refine aw_iconst (npc := 6) (v := 4) (by decide) dX0_hasOf_5 rfl ?_
    refine aw_icmp_ge (npc := 9) (tgt := 55) dX0_hasOf_6 rfl (by decide) (fun hc => absurd hc (by decide)) (fun _ => ?_)
    refine aw_iload_n (npc := 10) rfl dX0_hasOf_9 rfl ?_
    refine aw_if_ne (npc := 13) (tgt := 22) dX0_hasOf_10 rfl (by decide) (fun _ => ?_) (fun hc => absurd hc (by decide))
    refine aw_bipush (npc := 24) (v := 9) (by decide) dX0_hasOf_22 rfl ?_
    refine aw_aload_n (npc := 25) rfl dX0_hasOf_24 rfl ?_
    refine aw_get (npc := 28) dX0_hasOf_25 rfl kf_X0_9 f1 rfl ?_
    refine aw_iload_n (npc := 29) rfl dX0_hasOf_28 rfl ?_
    refine aw_iald (npc := 30) (x := 5) (j := 1) dX0_hasOf_29 rfl f2 ⟨by decide, by decide⟩ rfl ?_
    refine aw_isubV (npc := 31) (v := 4) dX0_hasOf_30 rfl (by decide) ?_
    refine aw_istore (npc := 33) (L' := [some (.ref 1), some (.int 1), some (.int 4), some (.int 1), some (.int 4)]) dX0_hasOf_31 rfl (by decide) rfl rfl ?_
    refine aw_iload_n (npc := 34) rfl dX0_hasOf_33 rfl ?_
    refine aw_aload_n (npc := 35) rfl dX0_hasOf_34 rfl ?_
    refine aw_get (npc := 38) dX0_hasOf_35 rfl kf_X0_15 f1 rfl ?_
    refine aw_iload_n (npc := 39) rfl dX0_hasOf_38 rfl ?_
    refine aw_iload_n (npc := 40) rfl dX0_hasOf_39 rfl ?_
    refine aw_callSN (npc := 43) (N := mX7_carePlace) (mc := 0) (ms := 0) (A := [.int 1, .int 1]) (S := [.ref 3, .int 4]) (L0 := [some (.int 1), some (.int 1)]) dX0_hasOf_40 rfl km_X7_carePlace kk_X0_87 rfl ⟨rfl, by decide⟩ rfl (Nat.le_of_ble_eq_true rfl) (Nat.zero_add _) (Nat.zero_add _) rfl ?_
    refine aw_iload_n (npc := 1) rfl dX7_carePlace_0 rfl ?_
    refine aw_iconst (npc := 2) (v := 4) (by decide) dX7_carePlace_1 rfl ?_
    refine aw_imulV (npc := 3) (v := 4) dX7_carePlace_2 rfl (by decide) ?_
    refine aw_iload_n (npc := 4) rfl dX7_carePlace_3 rfl ?_
    refine aw_iaddV (npc := 5) (v := 5) dX7_carePlace_4 rfl (by decide) ?_
    refine aw_iret rfl dX7_carePlace_5 ?_
    refine aw_re (S' := [.int 5, .ref 3, .int 4]) rfl ?_
    refine aw_iald (npc := 44) (x := 1) (j := 5) dX0_hasOf_43 rfl f3 ⟨by decide, by decide⟩ rfl ?_
    refine aw_iload (npc := 46) rfl dX0_hasOf_44 rfl ?_
    refine aw_imulV (npc := 47) (v := 4) dX0_hasOf_46 rfl (by decide) ?_
    refine aw_iaddV (npc := 48) (v := 8) dX0_hasOf_47 rfl (by decide) ?_
    refine aw_istore_n (npc := 49) (L' := [some (.ref 1), some (.int 1), some (.int 8), some (.int 1), some (.int 4)]) dX0_hasOf_48 rfl (by decide) rfl rfl ?_
    refine aw_iinc (npc := 52) (v := 2) (L' := [some (.ref 1), some (.int 1), some (.int 8), some (.int 2), some (.int 4)]) dX0_hasOf_49 rfl rfl (by decide) (by decide) rfl rfl ?_
    refine aw_goto (npc := 4) dX0_hasOf_52 (by decide) ?_
    refine aw_iload_n (npc := 5) rfl dX0_hasOf_4 rfl ?_
    refine aw_iconst (npc := 6) (v := 4) (by decide) dX0_hasOf_5 rfl ?_
    refine aw_icmp_ge (npc := 9) (tgt := 55) dX0_hasOf_6 rfl (by decide) (fun hc => absurd hc (by decide)) (fun _ => ?_)
    refine aw_iload_n (npc := 10) rfl dX0_hasOf_9 rfl ?_
    refine aw_if_ne (npc := 13) (tgt := 22) dX0_hasOf_10 rfl (by decide) (fun _ => ?_) (fun hc => absurd hc (by decide))
    refine aw_bipush (npc := 24) (v := 9) (by decide) dX0_hasOf_22 rfl ?_
    refine aw_aload_n (npc := 25) rfl dX0_hasOf_24 rfl ?_
    refine aw_get (npc := 28) dX0_hasOf_25 rfl kf_X0_9 f1 rfl ?_
    refine aw_iload_n (npc := 29) rfl dX0_hasOf_28 rfl ?_
    refine aw_iald (npc := 30) (x := 5) (j := 2) dX0_hasOf_29 rfl f2 ⟨by decide, by decide⟩ rfl ?_
    refine aw_isubV (npc := 31) (v := 4) dX0_hasOf_30 rfl (by decide) ?_
    refine aw_istore (npc := 33) (L' := [some (.ref 1), some (.int 1), some (.int 8), some (.int 2), some (.int 4)]) dX0_hasOf_31 rfl (by decide) rfl rfl ?_
    refine aw_iload_n (npc := 34) rfl dX0_hasOf_33 rfl ?_
    refine aw_aload_n (npc := 35) rfl dX0_hasOf_34 rfl ?_
    refine aw_get (npc := 38) dX0_hasOf_35 rfl kf_X0_15 f1 rfl ?_
    refine aw_iload_n (npc := 39) rfl dX0_hasOf_38 rfl ?_
    refine aw_iload_n (npc := 40) rfl dX0_hasOf_39 rfl ?_
    refine aw_callSN (npc := 43) (N := mX7_carePlace) (mc := 0) (ms := 0) (A := [.int 1, .int 2]) (S := [.ref 3, .int 8]) (L0 := [some (.int 1), some (.int 2)]) dX0_hasOf_40 rfl km_X7_carePlace kk_X0_87 rfl ⟨rfl, by decide⟩ rfl (Nat.le_of_ble_eq_true rfl) (Nat.zero_add _) (Nat.zero_add _) rfl ?_
    refine aw_iload_n (npc := 1) rfl dX7_carePlace_0 rfl ?_
    refine aw_iconst (npc := 2) (v := 4) (by decide) dX7_carePlace_1 rfl ?_
    refine aw_imulV (npc := 3) (v := 4) dX7_carePlace_2 rfl (by decide) ?_
    refine aw_iload_n (npc := 4) rfl dX7_carePlace_3 rfl ?_
    refine aw_iaddV (npc := 5) (v := 6) dX7_carePlace_4 rfl (by decide) ?_
    refine aw_iret rfl dX7_carePlace_5 ?_
    refine aw_re (S' := [.int 6, .ref 3, .int 8]) rfl ?_
    refine aw_iald (npc := 44) (x := 1) (j := 6) dX0_hasOf_43 rfl f3 ⟨by decide, by decide⟩ rfl ?_
    refine aw_iload (npc := 46) rfl dX0_hasOf_44 rfl ?_
    refine aw_imulV (npc := 47) (v := 4) dX0_hasOf_46 rfl (by decide) ?_
    refine aw_iaddV (npc := 48) (v := 12) dX0_hasOf_47 rfl (by decide) ?_
    refine aw_istore_n (npc := 49) (L' := [some (.ref 1), some (.int 1), some (.int 12), some (.int 2), some (.int 4)]) dX0_hasOf_48 rfl (by decide) rfl rfl ?_
    refine aw_iinc (npc := 52) (v := 3) (L' := [some (.ref 1), some (.int 1), some (.int 12), some (.int 3), some (.int 4)]) dX0_hasOf_49 rfl rfl (by decide) (by decide) rfl rfl ?_
    refine aw_goto (npc := 4) dX0_hasOf_52 (by decide) ?_
    refine aw_iload_n (npc := 5) rfl dX0_hasOf_4 rfl ?_
    refine aw_iconst (npc := 6) (v := 4) (by decide) dX0_hasOf_5 rfl ?_
    refine aw_icmp_ge (npc := 9) (tgt := 55) dX0_hasOf_6 rfl (by decide) (fun hc => absurd hc (by decide)) (fun _ => ?_)
    refine aw_iload_n (npc := 10) rfl dX0_hasOf_9 rfl ?_
    refine aw_if_ne (npc := 13) (tgt := 22) dX0_hasOf_10 rfl (by decide) (fun _ => ?_) (fun hc => absurd hc (by decide))
    refine aw_bipush (npc := 24) (v := 9) (by decide) dX0_hasOf_22 rfl ?_
    refine aw_aload_n (npc := 25) rfl dX0_hasOf_24 rfl ?_
    refine aw_get (npc := 28) dX0_hasOf_25 rfl kf_X0_9 f1 rfl ?_
    refine aw_iload_n (npc := 29) rfl dX0_hasOf_28 rfl ?_
    refine aw_iald (npc := 30) (x := 5) (j := 3) dX0_hasOf_29 rfl f2 ⟨by decide, by decide⟩ rfl ?_
    refine aw_isubV (npc := 31) (v := 4) dX0_hasOf_30 rfl (by decide) ?_
    refine aw_istore (npc := 33) (L' := [some (.ref 1), some (.int 1), some (.int 12), some (.int 3), some (.int 4)]) dX0_hasOf_31 rfl (by decide) rfl rfl ?_
    refine aw_iload_n (npc := 34) rfl dX0_hasOf_33 rfl ?_
    refine aw_aload_n (npc := 35) rfl dX0_hasOf_34 rfl ?_
    refine aw_get (npc := 38) dX0_hasOf_35 rfl kf_X0_15 f1 rfl ?_
    refine aw_iload_n (npc := 39) rfl dX0_hasOf_38 rfl ?_
    refine aw_iload_n (npc := 40) rfl dX0_hasOf_39 rfl ?_
    refine aw_callSN (npc := 43) (N := mX7_carePlace) (mc := 0) (ms := 0) (A := [.int 1, .int 3]) (S := [.ref 3, .int 12]) (L0 := [some (.int 1), some (.int 3)]) dX0_hasOf_40 rfl km_X7_carePlace kk_X0_87 rfl ⟨rfl, by decide⟩ rfl (Nat.le_of_ble_eq_true rfl) (Nat.zero_add _) (Nat.zero_add _) rfl ?_
    refine aw_iload_n (npc := 1) rfl dX7_carePlace_0 rfl ?_
    refine aw_iconst (npc := 2) (v := 4) (by decide) dX7_carePlace_1 rfl ?_
    refine aw_imulV (npc := 3) (v := 4) dX7_carePlace_2 rfl (by decide) ?_
    refine aw_iload_n (npc := 4) rfl dX7_carePlace_3 rfl ?_
    refine aw_iaddV (npc := 5) (v := 7) dX7_carePlace_4 rfl (by decide) ?_
    refine aw_iret rfl dX7_carePlace_5 ?_
    refine aw_re (S' := [.int 7, .ref 3, .int 12]) rfl ?_
    refine aw_iald (npc := 44) (x := 1) (j := 7) dX0_hasOf_43 rfl f3 ⟨by decide, by decide⟩ rfl ?_
    refine aw_iload (npc := 46) rfl dX0_hasOf_44 rfl ?_
    refine aw_imulV (npc := 47) (v := 4) dX0_hasOf_46 rfl (by decide) ?_
    refine aw_iaddV (npc := 48) (v := 16) dX0_hasOf_47 rfl (by decide) ?_
    refine aw_istore_n (npc := 49) (L' := [some (.ref 1), some (.int 1), some (.int 16), some (.int 3), some (.int 4)]) dX0_hasOf_48 rfl (by decide) rfl rfl ?_
    refine aw_iinc (npc := 52) (v := 4) (L' := [some (.ref 1), some (.int 1), some (.int 16), some (.int 4), some (.int 4)]) dX0_hasOf_49 rfl rfl (by decide) (by decide) rfl rfl ?_
    refine aw_goto (npc := 4) dX0_hasOf_52 (by decide) ?_
    refine aw_iload_n (npc := 5) rfl dX0_hasOf_4 rfl ?_
    refine aw_iconst (npc := 6) (v := 4) (by decide) dX0_hasOf_5 rfl ?_
    refine aw_icmp_ge (npc := 9) (tgt := 55) dX0_hasOf_6 rfl (by decide) (fun _ => ?_) (fun hc => absurd (by decide) hc)
    refine aw_iload_n (npc := 56) rfl dX0_hasOf_55 rfl ?_
    refine aw_iret rfl dX0_hasOf_56 ?_
    refine aw_re (S' := [.int 16]) rfl ?_
    refine aw_aload_n (npc := 20) rfl dX0_isPeace_19 rfl ?_
    refine aw_get (npc := 23) dX0_isPeace_20 rfl kf_X0_18 f1 rfl ?_
    refine aw_iconst (npc := 24) (v := 1) (by decide) dX0_isPeace_23 rfl ?_
    refine aw_iald (npc := 25) (x := 20) (j := 1) dX0_isPeace_24 rfl f4 ⟨by decide, by decide⟩ rfl ?_
    refine aw_icmp_lt (npc := 28) (tgt := 32) dX0_isPeace_25 rfl (by decide) (fun _ => ?_) (fun hc => absurd (by decide) hc)
    refine aw_iconst (npc := 33) (v := 0) (by decide) dX0_isPeace_32 rfl ?_
    refine aw_zret rfl rfl dX0_isPeace_33 ?_
    refine aw_re (S' := [.int 0]) rfl ?_
    refine aw_if_ne (npc := 18) (tgt := 39) dX0_runPosts_15 rfl (by decide) (fun hc => absurd (by decide) hc) (fun _ => ?_)
    refine aw_aload_n (npc := 19) rfl dX0_runPosts_18 rfl ?_
    refine aw_callV (npc := 22) (N := mX0_isDuel) (b := 1) (mc := 0) (ms := 0) (A := []) (S := []) (L0 := [some (.ref 1)]) dX0_runPosts_19 rfl km_X0_isDuel kk_X0_121 f1 ⟨by decide, rfl⟩ rfl ⟨rfl, by decide⟩ rfl (Nat.le_of_ble_eq_true rfl) (Nat.zero_add _) (Nat.zero_add _) rfl ?_
    refine aw_aload_n (npc := 1) rfl dX0_isDuel_0 rfl ?_
    refine aw_get (npc := 4) dX0_isDuel_1 rfl kf_X0_21 f1 rfl ?_
    refine aw_aload_n (npc := 5) rfl dX0_isDuel_4 rfl ?_
    refine aw_get (npc := 8) dX0_isDuel_5 rfl kf_X0_25 f1 rfl ?_
    refine aw_icmp_lt (npc := 11) (tgt := 15) dX0_isDuel_8 rfl (by decide) (fun hc2 => ?_) (fun hc2 => ?_)
    · refine aw_iconst (npc := 16) (v := 0) (by decide) dX0_isDuel_15 rfl ?_
      refine aw_zret rfl rfl dX0_isDuel_16 ?_
      refine aw_re (S' := [.int 0]) rfl ?_
      refine aw_if_ne (npc := 25) (tgt := 39) dX0_runPosts_22 rfl (by decide) (fun hc => absurd (by decide) hc) (fun _ => ?_)
      refine aw_iload_n (npc := 26) rfl dX0_runPosts_25 rfl ?_
      refine aw_aload_n (npc := 27) rfl dX0_runPosts_26 rfl ?_
      refine aw_iload_n (npc := 28) rfl dX0_runPosts_27 rfl ?_
      refine aw_callV (npc := 31) (N := mX0_writeLetters) (b := 1) (mc := 0) (ms := 0) (A := [.int wo]) (S := [.int 0]) (L0 := [some (.ref 1), some (.int wo), none, none, none, none]) dX0_runPosts_28 rfl km_X0_writeLetters kk_X0_124 f1 ⟨by decide, rfl⟩ rfl ⟨rfl, by decide⟩ rfl (Nat.le_of_ble_eq_true rfl) (Nat.zero_add _) (Nat.zero_add _) rfl ?_
      refine aw_aload_n (npc := 1) rfl dX0_writeLetters_0 rfl ?_
      refine aw_get (npc := 4) dX0_writeLetters_1 rfl kf_X0_70 f1 rfl ?_
      refine aw_iconst (npc := 5) (v := 0) (by decide) dX0_writeLetters_4 rfl ?_
      refine aw_callS (npc := 8) (N := mJ7_fill_53178) (mc := 0) (ms := 0) (A := [.ref 12, .int 0]) (S := []) (L0 := [some (.ref 12), some (.int 0), none, none]) dX0_writeLetters_5 rfl km_J7_fill_53178 kk_X0_127 rfl ⟨rfl, by decide⟩ rfl (Nat.le_of_ble_eq_true rfl) (Nat.zero_add _) (Nat.zero_add _) rfl ?_
      refine aw_iconst (npc := 1) (v := 0) (by decide) dJ7_fill_53178_0 rfl ?_
      refine aw_istore_n (npc := 2) (L' := [some (.ref 12), some (.int 0), some (.int 0), none]) dJ7_fill_53178_1 rfl (by decide) rfl rfl ?_
      refine aw_aload_n (npc := 3) rfl dJ7_fill_53178_2 rfl ?_
      refine aw_alen (npc := 4) (v := 4) dJ7_fill_53178_3 rfl f12 rfl ?_
      refine aw_istore_n (npc := 5) (L' := [some (.ref 12), some (.int 0), some (.int 0), some (.int 4)]) dJ7_fill_53178_4 rfl (by decide) rfl rfl ?_
      refine aw_iload_n (npc := 6) rfl dJ7_fill_53178_5 rfl ?_
      refine aw_iload_n (npc := 7) rfl dJ7_fill_53178_6 rfl ?_
      refine aw_icmp_ge (npc := 10) (tgt := 20) dJ7_fill_53178_7 rfl (by decide) (fun hc => absurd hc (by decide)) (fun _ => ?_)
      refine aw_aload_n (npc := 11) rfl dJ7_fill_53178_10 rfl ?_
      refine aw_iload_n (npc := 12) rfl dJ7_fill_53178_11 rfl ?_
      refine aw_iload_n (npc := 13) rfl dJ7_fill_53178_12 rfl ?_
      refine aw_iast (npc := 14) (j := 0) dJ7_fill_53178_13 rfl f12 ⟨by decide, by decide⟩ (Nat.le_of_ble_eq_true rfl) (show _ = am_up _ 12 (.inl (0, [0, 0, 0, 0])) from rfl) ?_
      refine aw_iinc (npc := 17) (v := 1) (L' := [some (.ref 12), some (.int 0), some (.int 1), some (.int 4)]) dJ7_fill_53178_14 rfl rfl (by decide) (by decide) rfl rfl ?_
      refine aw_goto (npc := 5) dJ7_fill_53178_17 (by decide) ?_
      refine aw_iload_n (npc := 6) rfl dJ7_fill_53178_5 rfl ?_
      refine aw_iload_n (npc := 7) rfl dJ7_fill_53178_6 rfl ?_
      refine aw_icmp_ge (npc := 10) (tgt := 20) dJ7_fill_53178_7 rfl (by decide) (fun hc => absurd hc (by decide)) (fun _ => ?_)
      refine aw_aload_n (npc := 11) rfl dJ7_fill_53178_10 rfl ?_
      refine aw_iload_n (npc := 12) rfl dJ7_fill_53178_11 rfl ?_
      refine aw_iload_n (npc := 13) rfl dJ7_fill_53178_12 rfl ?_
      refine aw_iast (npc := 14) (j := 1) dJ7_fill_53178_13 rfl am_eq ⟨by decide, by decide⟩ (Nat.le_of_ble_eq_true rfl) (show _ = am_up _ 12 (.inl (0, [0, 0, 0, 0])) from am_uu) ?_
      refine aw_iinc (npc := 17) (v := 2) (L' := [some (.ref 12), some (.int 0), some (.int 2), some (.int 4)]) dJ7_fill_53178_14 rfl rfl (by decide) (by decide) rfl rfl ?_
      refine aw_goto (npc := 5) dJ7_fill_53178_17 (by decide) ?_
      refine aw_iload_n (npc := 6) rfl dJ7_fill_53178_5 rfl ?_
      refine aw_iload_n (npc := 7) rfl dJ7_fill_53178_6 rfl ?_
      refine aw_icmp_ge (npc := 10) (tgt := 20) dJ7_fill_53178_7 rfl (by decide) (fun hc => absurd hc (by decide)) (fun _ => ?_)
      refine aw_aload_n (npc := 11) rfl dJ7_fill_53178_10 rfl ?_
      refine aw_iload_n (npc := 12) rfl dJ7_fill_53178_11 rfl ?_
      refine aw_iload_n (npc := 13) rfl dJ7_fill_53178_12 rfl ?_
      refine aw_iast (npc := 14) (j := 2) dJ7_fill_53178_13 rfl am_eq ⟨by decide, by decide⟩ (Nat.le_of_ble_eq_true rfl) (show _ = am_up _ 12 (.inl (0, [0, 0, 0, 0])) from am_uu) ?_
      refine aw_iinc (npc := 17) (v := 3) (L' := [some (.ref 12), some (.int 0), some (.int 3), some (.int 4)]) dJ7_fill_53178_14 rfl rfl (by decide) (by decide) rfl rfl ?_
      refine aw_goto (npc := 5) dJ7_fill_53178_17 (by decide) ?_
      refine aw_iload_n (npc := 6) rfl dJ7_fill_53178_5 rfl ?_
      refine aw_iload_n (npc := 7) rfl dJ7_fill_53178_6 rfl ?_
      refine aw_icmp_ge (npc := 10) (tgt := 20) dJ7_fill_53178_7 rfl (by decide) (fun hc => absurd hc (by decide)) (fun _ => ?_)
      refine aw_aload_n (npc := 11) rfl dJ7_fill_53178_10 rfl ?_
      refine aw_iload_n (npc := 12) rfl dJ7_fill_53178_11 rfl ?_
      refine aw_iload_n (npc := 13) rfl dJ7_fill_53178_12 rfl ?_
      refine aw_iast (npc := 14) (j := 3) dJ7_fill_53178_13 rfl am_eq ⟨by decide, by decide⟩ (Nat.le_of_ble_eq_true rfl) (show _ = am_up _ 12 (.inl (0, [0, 0, 0, 0])) from am_uu) ?_
      refine aw_iinc (npc := 17) (v := 4) (L' := [some (.ref 12), some (.int 0), some (.int 4), some (.int 4)]) dJ7_fill_53178_14 rfl rfl (by decide) (by decide) rfl rfl ?_
      refine aw_goto (npc := 5) dJ7_fill_53178_17 (by decide) ?_
      refine aw_iload_n (npc := 6) rfl dJ7_fill_53178_5 rfl ?_
      refine aw_iload_n (npc := 7) rfl dJ7_fill_53178_6 rfl ?_
      refine aw_icmp_ge (npc := 10) (tgt := 20) dJ7_fill_53178_7 rfl (by decide) (fun _ => ?_) (fun hc => absurd (by decide) hc)
      refine aw_vret rfl dJ7_fill_53178_20 ?_
      refine aw_iconst (npc := 9) (v := 0) (by decide) dX0_writeLetters_8 rfl ?_
      refine aw_istore_n (npc := 10) (L' := [some (.ref 1), some (.int wo), some (.int 0), none, none, none]) dX0_writeLetters_9 rfl (by decide) rfl rfl ?_
      refine aw_iconst (npc := 11) (v := 0) (by decide) dX0_writeLetters_10 rfl ?_
      refine aw_istore_n (npc := 12) (L' := [some (.ref 1), some (.int wo), some (.int 0), some (.int 0), none, none]) dX0_writeLetters_11 rfl (by decide) rfl rfl ?_
      refine aw_iconst (npc := 13) (v := 0) (by decide) dX0_writeLetters_12 rfl ?_
      refine aw_istore (npc := 15) (L' := [some (.ref 1), some (.int wo), some (.int 0), some (.int 0), some (.int 0), none]) dX0_writeLetters_13 rfl (by decide) rfl rfl ?_
      refine aw_iload (npc := 17) rfl dX0_writeLetters_15 rfl ?_
      refine aw_aload_n (npc := 18) rfl dX0_writeLetters_17 rfl ?_
      refine aw_get (npc := 21) dX0_writeLetters_18 rfl kf_X0_40 (am_ne (by decide) f1) rfl ?_
      refine aw_icmp_ge (npc := 24) (tgt := 152) dX0_writeLetters_21 rfl (by decide) (fun _ => ?_) (fun hc => absurd (by decide) hc)
      refine aw_iconst (npc := 153) (v := 0) (by decide) dX0_writeLetters_152 rfl ?_
      refine aw_istore (npc := 155) (L' := [some (.ref 1), some (.int wo), some (.int 0), some (.int 0), some (.int 0), none]) dX0_writeLetters_153 rfl (by decide) rfl rfl ?_
      refine aw_iload (npc := 157) rfl dX0_writeLetters_155 rfl ?_
      refine aw_iconst (npc := 158) (v := 4) (by decide) dX0_writeLetters_157 rfl ?_
      refine aw_icmp_ge (npc := 161) (tgt := 194) dX0_writeLetters_158 rfl (by decide) (fun hc => absurd hc (by decide)) (fun _ => ?_)
      refine aw_aload_n (npc := 162) rfl dX0_writeLetters_161 rfl ?_
      refine aw_get (npc := 165) dX0_writeLetters_162 rfl kf_X0_9 (am_ne (by decide) f1) rfl ?_
      refine aw_iload (npc := 167) rfl dX0_writeLetters_165 rfl ?_
      refine aw_aload_n (npc := 168) rfl dX0_writeLetters_167 rfl ?_
      refine aw_get (npc := 171) dX0_writeLetters_168 rfl kf_X0_9 (am_ne (by decide) f1) rfl ?_
      refine aw_iload (npc := 173) rfl dX0_writeLetters_171 rfl ?_
      refine aw_iald (npc := 174) (x := 5) (j := 0) dX0_writeLetters_173 rfl (am_ne (by decide) f2) ⟨by decide, by decide⟩ rfl ?_
      refine aw_aload_n (npc := 175) rfl dX0_writeLetters_174 rfl ?_
      refine aw_get (npc := 178) dX0_writeLetters_175 rfl kf_X0_70 (am_ne (by decide) f1) rfl ?_
      refine aw_iload (npc := 180) rfl dX0_writeLetters_178 rfl ?_
      refine aw_iald (npc := 181) (x := 0) (j := 0) dX0_writeLetters_180 rfl am_eq ⟨by decide, by decide⟩ rfl ?_
      refine aw_iaddV (npc := 182) (v := 5) dX0_writeLetters_181 rfl (by decide) ?_
      refine aw_bipush (npc := 184) (v := 9) (by decide) dX0_writeLetters_182 rfl ?_
      refine aw_callSN (npc := 187) (N := mX7_heldWithin) (mc := 0) (ms := 0) (A := [.int 5, .int 9]) (S := [.int 0, .ref 2]) (L0 := [some (.int 5), some (.int 9)]) dX0_writeLetters_184 rfl km_X7_heldWithin kk_X0_114 rfl ⟨rfl, by decide⟩ rfl (Nat.le_of_ble_eq_true rfl) (Nat.zero_add _) (Nat.zero_add _) rfl ?_
      refine aw_iload_n (npc := 1) rfl dX7_heldWithin_0 rfl ?_
      refine aw_if_ge (npc := 4) (tgt := 8) dX7_heldWithin_1 rfl (by decide) (fun _ => ?_) (fun hc => absurd (by decide) hc)
      refine aw_iload_n (npc := 9) rfl dX7_heldWithin_8 rfl ?_
      refine aw_iload_n (npc := 10) rfl dX7_heldWithin_9 rfl ?_
      refine aw_mmin (npc := 13) dX7_heldWithin_10 rfl kmm_X7_148 kmx_min (Nat.le_of_ble_eq_true rfl) ?_
      refine aw_top (y := 5) (by decide) ?_
      refine aw_iret rfl dX7_heldWithin_13 ?_
      refine aw_re (S' := [.int 5, .int 0, .ref 2]) rfl ?_
      refine aw_iast (npc := 188) (j := 0) dX0_writeLetters_187 rfl (am_ne (by decide) f2) ⟨by decide, by decide⟩ (Nat.le_of_ble_eq_true rfl) (show _ = am_up _ 2 (.inl (0, [5, 5, 5, 5])) from rfl) ?_
      refine aw_iinc (npc := 191) (v := 1) (L' := [some (.ref 1), some (.int wo), some (.int 0), some (.int 0), some (.int 1), none]) dX0_writeLetters_188 rfl rfl (by decide) (by decide) rfl rfl ?_
      refine aw_goto (npc := 155) dX0_writeLetters_191 (by decide) ?_
      refine aw_iload (npc := 157) rfl dX0_writeLetters_155 rfl ?_
      refine aw_iconst (npc := 158) (v := 4) (by decide) dX0_writeLetters_157 rfl ?_
      refine aw_icmp_ge (npc := 161) (tgt := 194) dX0_writeLetters_158 rfl (by decide) (fun hc => absurd hc (by decide)) (fun _ => ?_)
      refine aw_aload_n (npc := 162) rfl dX0_writeLetters_161 rfl ?_
      refine aw_get (npc := 165) dX0_writeLetters_162 rfl kf_X0_9 (am_ne (by decide) (am_ne (by decide) f1)) rfl ?_
      refine aw_iload (npc := 167) rfl dX0_writeLetters_165 rfl ?_
      refine aw_aload_n (npc := 168) rfl dX0_writeLetters_167 rfl ?_
      refine aw_get (npc := 171) dX0_writeLetters_168 rfl kf_X0_9 (am_ne (by decide) (am_ne (by decide) f1)) rfl ?_
      refine aw_iload (npc := 173) rfl dX0_writeLetters_171 rfl ?_
      refine aw_iald (npc := 174) (x := 5) (j := 1) dX0_writeLetters_173 rfl am_eq ⟨by decide, by decide⟩ rfl ?_
      refine aw_aload_n (npc := 175) rfl dX0_writeLetters_174 rfl ?_
      refine aw_get (npc := 178) dX0_writeLetters_175 rfl kf_X0_70 (am_ne (by decide) (am_ne (by decide) f1)) rfl ?_
      refine aw_iload (npc := 180) rfl dX0_writeLetters_178 rfl ?_
      refine aw_iald (npc := 181) (x := 0) (j := 1) dX0_writeLetters_180 rfl (am_ne (by decide) am_eq) ⟨by decide, by decide⟩ rfl ?_
      refine aw_iaddV (npc := 182) (v := 5) dX0_writeLetters_181 rfl (by decide) ?_
      refine aw_bipush (npc := 184) (v := 9) (by decide) dX0_writeLetters_182 rfl ?_
      refine aw_callSN (npc := 187) (N := mX7_heldWithin) (mc := 0) (ms := 0) (A := [.int 5, .int 9]) (S := [.int 1, .ref 2]) (L0 := [some (.int 5), some (.int 9)]) dX0_writeLetters_184 rfl km_X7_heldWithin kk_X0_114 rfl ⟨rfl, by decide⟩ rfl (Nat.le_of_ble_eq_true rfl) (Nat.zero_add _) (Nat.zero_add _) rfl ?_
      refine aw_iload_n (npc := 1) rfl dX7_heldWithin_0 rfl ?_
      refine aw_if_ge (npc := 4) (tgt := 8) dX7_heldWithin_1 rfl (by decide) (fun _ => ?_) (fun hc => absurd (by decide) hc)
      refine aw_iload_n (npc := 9) rfl dX7_heldWithin_8 rfl ?_
      refine aw_iload_n (npc := 10) rfl dX7_heldWithin_9 rfl ?_
      refine aw_mmin (npc := 13) dX7_heldWithin_10 rfl kmm_X7_148 kmx_min (Nat.le_of_ble_eq_true rfl) ?_
      refine aw_top (y := 5) (by decide) ?_
      refine aw_iret rfl dX7_heldWithin_13 ?_
      refine aw_re (S' := [.int 5, .int 1, .ref 2]) rfl ?_
      refine aw_iast (npc := 188) (j := 1) dX0_writeLetters_187 rfl am_eq ⟨by decide, by decide⟩ (Nat.le_of_ble_eq_true rfl) (show _ = am_up _ 2 (.inl (0, [5, 5, 5, 5])) from am_uu) ?_
      refine aw_iinc (npc := 191) (v := 2) (L' := [some (.ref 1), some (.int wo), some (.int 0), some (.int 0), some (.int 2), none]) dX0_writeLetters_188 rfl rfl (by decide) (by decide) rfl rfl ?_
      refine aw_goto (npc := 155) dX0_writeLetters_191 (by decide) ?_
      refine aw_iload (npc := 157) rfl dX0_writeLetters_155 rfl ?_
      refine aw_iconst (npc := 158) (v := 4) (by decide) dX0_writeLetters_157 rfl ?_
      refine aw_icmp_ge (npc := 161) (tgt := 194) dX0_writeLetters_158 rfl (by decide) (fun hc => absurd hc (by decide)) (fun _ => ?_)
      refine aw_aload_n (npc := 162) rfl dX0_writeLetters_161 rfl ?_
      refine aw_get (npc := 165) dX0_writeLetters_162 rfl kf_X0_9 (am_ne (by decide) (am_ne (by decide) f1)) rfl ?_
      refine aw_iload (npc := 167) rfl dX0_writeLetters_165 rfl ?_
      refine aw_aload_n (npc := 168) rfl dX0_writeLetters_167 rfl ?_
      refine aw_get (npc := 171) dX0_writeLetters_168 rfl kf_X0_9 (am_ne (by decide) (am_ne (by decide) f1)) rfl ?_
      refine aw_iload (npc := 173) rfl dX0_writeLetters_171 rfl ?_
      refine aw_iald (npc := 174) (x := 5) (j := 2) dX0_writeLetters_173 rfl am_eq ⟨by decide, by decide⟩ rfl ?_
      refine aw_aload_n (npc := 175) rfl dX0_writeLetters_174 rfl ?_
      refine aw_get (npc := 178) dX0_writeLetters_175 rfl kf_X0_70 (am_ne (by decide) (am_ne (by decide) f1)) rfl ?_
      refine aw_iload (npc := 180) rfl dX0_writeLetters_178 rfl ?_
      refine aw_iald (npc := 181) (x := 0) (j := 2) dX0_writeLetters_180 rfl (am_ne (by decide) am_eq) ⟨by decide, by decide⟩ rfl ?_
      refine aw_iaddV (npc := 182) (v := 5) dX0_writeLetters_181 rfl (by decide) ?_
      refine aw_bipush (npc := 184) (v := 9) (by decide) dX0_writeLetters_182 rfl ?_
      refine aw_callSN (npc := 187) (N := mX7_heldWithin) (mc := 0) (ms := 0) (A := [.int 5, .int 9]) (S := [.int 2, .ref 2]) (L0 := [some (.int 5), some (.int 9)]) dX0_writeLetters_184 rfl km_X7_heldWithin kk_X0_114 rfl ⟨rfl, by decide⟩ rfl (Nat.le_of_ble_eq_true rfl) (Nat.zero_add _) (Nat.zero_add _) rfl ?_
      refine aw_iload_n (npc := 1) rfl dX7_heldWithin_0 rfl ?_
      refine aw_if_ge (npc := 4) (tgt := 8) dX7_heldWithin_1 rfl (by decide) (fun _ => ?_) (fun hc => absurd (by decide) hc)
      refine aw_iload_n (npc := 9) rfl dX7_heldWithin_8 rfl ?_
      refine aw_iload_n (npc := 10) rfl dX7_heldWithin_9 rfl ?_
      refine aw_mmin (npc := 13) dX7_heldWithin_10 rfl kmm_X7_148 kmx_min (Nat.le_of_ble_eq_true rfl) ?_
      refine aw_top (y := 5) (by decide) ?_
      refine aw_iret rfl dX7_heldWithin_13 ?_
      refine aw_re (S' := [.int 5, .int 2, .ref 2]) rfl ?_
      refine aw_iast (npc := 188) (j := 2) dX0_writeLetters_187 rfl am_eq ⟨by decide, by decide⟩ (Nat.le_of_ble_eq_true rfl) (show _ = am_up _ 2 (.inl (0, [5, 5, 5, 5])) from am_uu) ?_
      refine aw_iinc (npc := 191) (v := 3) (L' := [some (.ref 1), some (.int wo), some (.int 0), some (.int 0), some (.int 3), none]) dX0_writeLetters_188 rfl rfl (by decide) (by decide) rfl rfl ?_
      refine aw_goto (npc := 155) dX0_writeLetters_191 (by decide) ?_
      refine aw_iload (npc := 157) rfl dX0_writeLetters_155 rfl ?_
      refine aw_iconst (npc := 158) (v := 4) (by decide) dX0_writeLetters_157 rfl ?_
      refine aw_icmp_ge (npc := 161) (tgt := 194) dX0_writeLetters_158 rfl (by decide) (fun hc => absurd hc (by decide)) (fun _ => ?_)
      refine aw_aload_n (npc := 162) rfl dX0_writeLetters_161 rfl ?_
      refine aw_get (npc := 165) dX0_writeLetters_162 rfl kf_X0_9 (am_ne (by decide) (am_ne (by decide) f1)) rfl ?_
      refine aw_iload (npc := 167) rfl dX0_writeLetters_165 rfl ?_
      refine aw_aload_n (npc := 168) rfl dX0_writeLetters_167 rfl ?_
      refine aw_get (npc := 171) dX0_writeLetters_168 rfl kf_X0_9 (am_ne (by decide) (am_ne (by decide) f1)) rfl ?_
      refine aw_iload (npc := 173) rfl dX0_writeLetters_171 rfl ?_
      refine aw_iald (npc := 174) (x := 5) (j := 3) dX0_writeLetters_173 rfl am_eq ⟨by decide, by decide⟩ rfl ?_
      refine aw_aload_n (npc := 175) rfl dX0_writeLetters_174 rfl ?_
      refine aw_get (npc := 178) dX0_writeLetters_175 rfl kf_X0_70 (am_ne (by decide) (am_ne (by decide) f1)) rfl ?_
      refine aw_iload (npc := 180) rfl dX0_writeLetters_178 rfl ?_
      refine aw_iald (npc := 181) (x := 0) (j := 3) dX0_writeLetters_180 rfl (am_ne (by decide) am_eq) ⟨by decide, by decide⟩ rfl ?_
      refine aw_iaddV (npc := 182) (v := 5) dX0_writeLetters_181 rfl (by decide) ?_
      refine aw_bipush (npc := 184) (v := 9) (by decide) dX0_writeLetters_182 rfl ?_
      refine aw_callSN (npc := 187) (N := mX7_heldWithin) (mc := 0) (ms := 0) (A := [.int 5, .int 9]) (S := [.int 3, .ref 2]) (L0 := [some (.int 5), some (.int 9)]) dX0_writeLetters_184 rfl km_X7_heldWithin kk_X0_114 rfl ⟨rfl, by decide⟩ rfl (Nat.le_of_ble_eq_true rfl) (Nat.zero_add _) (Nat.zero_add _) rfl ?_
      refine aw_iload_n (npc := 1) rfl dX7_heldWithin_0 rfl ?_
      refine aw_if_ge (npc := 4) (tgt := 8) dX7_heldWithin_1 rfl (by decide) (fun _ => ?_) (fun hc => absurd (by decide) hc)
      refine aw_iload_n (npc := 9) rfl dX7_heldWithin_8 rfl ?_
      refine aw_iload_n (npc := 10) rfl dX7_heldWithin_9 rfl ?_
      refine aw_mmin (npc := 13) dX7_heldWithin_10 rfl kmm_X7_148 kmx_min (Nat.le_of_ble_eq_true rfl) ?_
      refine aw_top (y := 5) (by decide) ?_
      refine aw_iret rfl dX7_heldWithin_13 ?_
      refine aw_re (S' := [.int 5, .int 3, .ref 2]) rfl ?_
      refine aw_iast (npc := 188) (j := 3) dX0_writeLetters_187 rfl am_eq ⟨by decide, by decide⟩ (Nat.le_of_ble_eq_true rfl) (show _ = am_up _ 2 (.inl (0, [5, 5, 5, 5])) from am_uu) ?_
      refine aw_iinc (npc := 191) (v := 4) (L' := [some (.ref 1), some (.int wo), some (.int 0), some (.int 0), some (.int 4), none]) dX0_writeLetters_188 rfl rfl (by decide) (by decide) rfl rfl ?_
      refine aw_goto (npc := 155) dX0_writeLetters_191 (by decide) ?_
      refine aw_iload (npc := 157) rfl dX0_writeLetters_155 rfl ?_
      refine aw_iconst (npc := 158) (v := 4) (by decide) dX0_writeLetters_157 rfl ?_
      refine aw_icmp_ge (npc := 161) (tgt := 194) dX0_writeLetters_158 rfl (by decide) (fun _ => ?_) (fun hc => absurd (by decide) hc)
      refine aw_aload_n (npc := 195) rfl dX0_writeLetters_194 rfl ?_
      refine aw_aload_n (npc := 196) rfl dX0_writeLetters_195 rfl ?_
      refine aw_get (npc := 199) dX0_writeLetters_196 rfl kf_X0_21 (am_ne (by decide) (am_ne (by decide) f1)) rfl ?_
      refine aw_iload_n (npc := 200) rfl dX0_writeLetters_199 rfl ?_
      refine aw_iaddV (npc := 201) (v := hv) dX0_writeLetters_200 rfl (Int32.add_zero _) ?_
      refine aw_bipush (npc := 203) (v := 99) (by decide) dX0_writeLetters_201 rfl ?_
      refine aw_callSN (npc := 206) (N := mX7_heldWithin) (mc := 0) (ms := 0) (A := [.int hv, .int 99]) (S := [.ref 1]) (L0 := [some (.int hv), some (.int 99)]) dX0_writeLetters_203 rfl km_X7_heldWithin kk_X0_114 rfl ⟨rfl, by decide⟩ rfl (Nat.le_of_ble_eq_true rfl) (Nat.zero_add _) (Nat.zero_add _) rfl ?_
      refine aw_iload_n (npc := 1) rfl dX7_heldWithin_0 rfl ?_
      refine aw_if_ge (npc := 4) (tgt := 8) dX7_heldWithin_1 rfl (by decide) (fun _ => ?_) (fun hc => absurd (wi_ge0 hh) hc)
      refine aw_iload_n (npc := 9) rfl dX7_heldWithin_8 rfl ?_
      refine aw_iload_n (npc := 10) rfl dX7_heldWithin_9 rfl ?_
      refine aw_mmin (npc := 13) dX7_heldWithin_10 rfl kmm_X7_148 kmx_min (Nat.le_of_ble_eq_true rfl) ?_
      refine aw_top (y := hv) (if_neg hh.2) ?_
      refine aw_iret rfl dX7_heldWithin_13 ?_
      refine aw_re (S' := [.int hv, .ref 1]) rfl ?_
      refine aw_put (npc := 209) dX0_writeLetters_206 rfl kf_X0_21 (am_ne (by decide) (am_ne (by decide) f1)) (Nat.le_of_ble_eq_true rfl) (am_ok_int _) rfl ?_
      refine aw_iload_n (npc := 210) rfl dX0_writeLetters_209 rfl ?_
      refine aw_iret rfl dX0_writeLetters_210 ?_
      refine aw_re (S' := [.int 0, .int 0]) rfl ?_
      refine aw_iaddV (npc := 32) (v := 0) dX0_runPosts_31 rfl (by decide) ?_
      refine aw_istore_n (npc := 33) (L' := [some (.ref 1), some (.int (nI N)), some (.int wo), some (.int 0), some (.int (nI j))]) dX0_runPosts_32 rfl (by decide) rfl rfl ?_
      refine aw_iinc (npc := 36) (v := nI (j + 1)) (L' := [some (.ref 1), some (.int (nI N)), some (.int wo), some (.int 0), some (.int (nI (j + 1)))]) dX0_runPosts_33 rfl rfl (nI_1 j) (by decide) rfl rfl ?_
      refine aw_goto (npc := 5) dX0_runPosts_36 (by decide) ?_
      exact ih (j + 1) (by omega) _ ⟨am_eq, (am_ne (by decide) am_eq), (am_ne (by decide) (am_ne (by decide) (am_ne (by decide) f3))), (am_ne (by decide) (am_ne (by decide) (am_ne (by decide) f4))), (am_ne (by decide) (am_ne (by decide) (am_ne (by decide) f5))), (am_ne (by decide) (am_ne (by decide) (am_ne (by decide) f6))), (am_ne (by decide) (am_ne (by decide) (am_ne (by decide) f7))), (am_ne (by decide) (am_ne (by decide) (am_ne (by decide) f8))), (am_ne (by decide) (am_ne (by decide) (am_ne (by decide) f9))), (am_ne (by decide) (am_ne (by decide) (am_ne (by decide) f10))), (am_ne (by decide) (am_ne (by decide) (am_ne (by decide) f11))), (am_ne (by decide) (am_ne (by decide) am_eq))⟩ (fun i h9 F9 fz => hx i h9 F9 (am_fbT fz (am_fbU (by decide) (am_fbU (by decide) (am_fbU (by decide) am_fb0)))))
    · refine aw_iconst (npc := 12) (v := 1) (by decide) dX0_isDuel_11 rfl ?_
      refine aw_goto (npc := 16) dX0_isDuel_12 (by decide) ?_
      refine aw_zret rfl rfl dX0_isDuel_16 ?_
      refine aw_re (S' := [.int 1]) rfl ?_
      refine aw_if_ne (npc := 25) (tgt := 39) dX0_runPosts_22 rfl (by decide) (fun _ => ?_) (fun hc => absurd hc (by decide))
      exact hx _ _ ⟨f1, f2, f3, f4, f5, f6, f7, f8, f9, f10, f11, f12⟩ am_fb0
set_option maxHeartbeats 40000000 in
set_option maxRecDepth 100000 in
theorem p_run_1 {X : List Int32} {d rc rs nn : Nat} {Q : am_Q} {hv pt wo : Int32} {N : Nat} {h : am_H} (hh : wi hv 0 99) (hN : N < 1000) (F : fq1 hv pt h) (hq : ∀ h9, fq1 hv (pt + nI N) h9 → am_fb 1 13 h9 h → Q (some (.int 0)) nn h9) : AW X mX0_runPosts (d + 9) rc rs 0 [some (.ref 1), some (.int (nI N)), some (.int wo), none, none] [] nn h Q := by
  obtain ⟨f1, f2, f3, f4, f5, f6, f7, f8, f9, f10, f11, f12⟩ := id F
  refine aw_iconst (npc := 1) (v := 0) (by decide) dX0_runPosts_0 rfl ?_
  refine aw_istore_n (npc := 2) (L' := [some (.ref 1), some (.int (nI N)), some (.int wo), some (.int 0), none]) dX0_runPosts_1 rfl (by decide) rfl rfl ?_
  refine aw_iconst (npc := 3) (v := 0) (by decide) dX0_runPosts_2 rfl ?_
  refine aw_istore (npc := 5) (L' := [some (.ref 1), some (.int (nI N)), some (.int wo), some (.int 0), some (.int 0)]) dX0_runPosts_3 rfl (by decide) rfl rfl ?_
  refine aw_locs (L' := [some (.ref 1), some (.int (nI N)), some (.int wo), some (.int 0), some (.int (nI 0))]) (by rw [nI_0]) ?_
  refine p_runL_1 hh N hN N 0 (by omega) h F (fun i h9 F9 fz => ?_)
  obtain ⟨f1, f2, f3, f4, f5, f6, f7, f8, f9, f10, f11, f12⟩ := F9
  refine aw_aload_n (npc := 40) rfl dX0_runPosts_39 rfl ?_
  refine aw_dup (npc := 41) rfl dX0_runPosts_40 rfl ?_
  refine aw_get (npc := 44) dX0_runPosts_41 rfl kf_X0_34 f1 rfl ?_
  refine aw_iload_n (npc := 45) rfl dX0_runPosts_44 rfl ?_
  refine aw_iadd (npc := 46) dX0_runPosts_45 rfl ?_
  refine aw_put (npc := 49) dX0_runPosts_46 rfl kf_X0_34 f1 (Nat.le_of_ble_eq_true rfl) (am_ok_int _) rfl ?_
  refine aw_iload_n (npc := 50) rfl dX0_runPosts_49 rfl ?_
  refine aw_iret rfl dX0_runPosts_50 ?_
  exact hq _ ⟨am_eq, (am_ne (by decide) f2), (am_ne (by decide) f3), (am_ne (by decide) f4), (am_ne (by decide) f5), (am_ne (by decide) f6), (am_ne (by decide) f7), (am_ne (by decide) f8), (am_ne (by decide) f9), (am_ne (by decide) f10), (am_ne (by decide) f11), (am_ne (by decide) f12)⟩ (am_fbU (by decide) fz)
set_option maxHeartbeats 40000000 in
set_option maxRecDepth 100000 in
theorem p_peace_1 {X : List Int32} {d rc rs nn : Nat} {Q : am_Q} {hv pt : Int32} {h : am_H} (F : fq1 hv pt h) (hq : Q (some (.int 0)) nn h) : AW X mX0_isPeace (d + 4) rc rs 0 [some (.ref 1)] [] nn h Q := by
  obtain ⟨f1, f2, f3, f4, f5, f6, f7, f8, f9, f10, f11, f12⟩ := F
  refine aw_aload_n (npc := 1) rfl dX0_isPeace_0 rfl ?_
  refine aw_iconst (npc := 2) (v := 0) (by decide) dX0_isPeace_1 rfl ?_
  refine aw_callV (npc := 5) (N := mX0_hasOf) (b := 1) (mc := 0) (ms := 0) (A := [.int 0]) (S := []) (L0 := [some (.ref 1), some (.int 0), none, none, none]) dX0_isPeace_2 rfl km_X0_hasOf kk_X0_91 f1 ⟨by decide, rfl⟩ rfl ⟨rfl, by decide⟩ rfl (Nat.le_of_ble_eq_true rfl) (Nat.zero_add _) (Nat.zero_add _) rfl ?_
  refine aw_iconst (npc := 1) (v := 0) (by decide) dX0_hasOf_0 rfl ?_
  refine aw_istore_n (npc := 2) (L' := [some (.ref 1), some (.int 0), some (.int 0), none, none]) dX0_hasOf_1 rfl (by decide) rfl rfl ?_
  refine aw_iconst (npc := 3) (v := 0) (by decide) dX0_hasOf_2 rfl ?_
  refine aw_istore_n (npc := 4) (L' := [some (.ref 1), some (.int 0), some (.int 0), some (.int 0), none]) dX0_hasOf_3 rfl (by decide) rfl rfl ?_
  refine aw_iload_n (npc := 5) rfl dX0_hasOf_4 rfl ?_
  refine aw_iconst (npc := 6) (v := 4) (by decide) dX0_hasOf_5 rfl ?_
  refine aw_icmp_ge (npc := 9) (tgt := 55) dX0_hasOf_6 rfl (by decide) (fun hc => absurd hc (by decide)) (fun _ => ?_)
  refine aw_iload_n (npc := 10) rfl dX0_hasOf_9 rfl ?_
  refine aw_if_ne (npc := 13) (tgt := 22) dX0_hasOf_10 rfl (by decide) (fun hc => absurd (by decide) hc) (fun _ => ?_)
  refine aw_aload_n (npc := 14) rfl dX0_hasOf_13 rfl ?_
  refine aw_get (npc := 17) dX0_hasOf_14 rfl kf_X0_9 f1 rfl ?_
  refine aw_iload_n (npc := 18) rfl dX0_hasOf_17 rfl ?_
  refine aw_iald (npc := 19) (x := 5) (j := 0) dX0_hasOf_18 rfl f2 ⟨by decide, by decide⟩ rfl ?_
  refine aw_goto (npc := 31) dX0_hasOf_19 (by decide) ?_
  refine aw_istore (npc := 33) (L' := [some (.ref 1), some (.int 0), some (.int 0), some (.int 0), some (.int 5)]) dX0_hasOf_31 rfl (by decide) rfl rfl ?_
  refine aw_iload_n (npc := 34) rfl dX0_hasOf_33 rfl ?_
  refine aw_aload_n (npc := 35) rfl dX0_hasOf_34 rfl ?_
  refine aw_get (npc := 38) dX0_hasOf_35 rfl kf_X0_15 f1 rfl ?_
  refine aw_iload_n (npc := 39) rfl dX0_hasOf_38 rfl ?_
  refine aw_iload_n (npc := 40) rfl dX0_hasOf_39 rfl ?_
  refine aw_callSN (npc := 43) (N := mX7_carePlace) (mc := 0) (ms := 0) (A := [.int 0, .int 0]) (S := [.ref 3, .int 0]) (L0 := [some (.int 0), some (.int 0)]) dX0_hasOf_40 rfl km_X7_carePlace kk_X0_87 rfl ⟨rfl, by decide⟩ rfl (Nat.le_of_ble_eq_true rfl) (Nat.zero_add _) (Nat.zero_add _) rfl ?_
  refine aw_iload_n (npc := 1) rfl dX7_carePlace_0 rfl ?_
  refine aw_iconst (npc := 2) (v := 4) (by decide) dX7_carePlace_1 rfl ?_
  refine aw_imulV (npc := 3) (v := 0) dX7_carePlace_2 rfl (by decide) ?_
  refine aw_iload_n (npc := 4) rfl dX7_carePlace_3 rfl ?_
  refine aw_iaddV (npc := 5) (v := 0) dX7_carePlace_4 rfl (by decide) ?_
  refine aw_iret rfl dX7_carePlace_5 ?_
  refine aw_re (S' := [.int 0, .ref 3, .int 0]) rfl ?_
  refine aw_iald (npc := 44) (x := 1) (j := 0) dX0_hasOf_43 rfl f3 ⟨by decide, by decide⟩ rfl ?_
  refine aw_iload (npc := 46) rfl dX0_hasOf_44 rfl ?_
  refine aw_imulV (npc := 47) (v := 5) dX0_hasOf_46 rfl (by decide) ?_
  refine aw_iaddV (npc := 48) (v := 5) dX0_hasOf_47 rfl (by decide) ?_
  refine aw_istore_n (npc := 49) (L' := [some (.ref 1), some (.int 0), some (.int 5), some (.int 0), some (.int 5)]) dX0_hasOf_48 rfl (by decide) rfl rfl ?_
  refine aw_iinc (npc := 52) (v := 1) (L' := [some (.ref 1), some (.int 0), some (.int 5), some (.int 1), some (.int 5)]) dX0_hasOf_49 rfl rfl (by decide) (by decide) rfl rfl ?_
  refine aw_goto (npc := 4) dX0_hasOf_52 (by decide) ?_
  refine aw_iload_n (npc := 5) rfl dX0_hasOf_4 rfl ?_
  refine aw_iconst (npc := 6) (v := 4) (by decide) dX0_hasOf_5 rfl ?_
  refine aw_icmp_ge (npc := 9) (tgt := 55) dX0_hasOf_6 rfl (by decide) (fun hc => absurd hc (by decide)) (fun _ => ?_)
  refine aw_iload_n (npc := 10) rfl dX0_hasOf_9 rfl ?_
  refine aw_if_ne (npc := 13) (tgt := 22) dX0_hasOf_10 rfl (by decide) (fun hc => absurd (by decide) hc) (fun _ => ?_)
  refine aw_aload_n (npc := 14) rfl dX0_hasOf_13 rfl ?_
  refine aw_get (npc := 17) dX0_hasOf_14 rfl kf_X0_9 f1 rfl ?_
  refine aw_iload_n (npc := 18) rfl dX0_hasOf_17 rfl ?_
  refine aw_iald (npc := 19) (x := 5) (j := 1) dX0_hasOf_18 rfl f2 ⟨by decide, by decide⟩ rfl ?_
  refine aw_goto (npc := 31) dX0_hasOf_19 (by decide) ?_
  refine aw_istore (npc := 33) (L' := [some (.ref 1), some (.int 0), some (.int 5), some (.int 1), some (.int 5)]) dX0_hasOf_31 rfl (by decide) rfl rfl ?_
  refine aw_iload_n (npc := 34) rfl dX0_hasOf_33 rfl ?_
  refine aw_aload_n (npc := 35) rfl dX0_hasOf_34 rfl ?_
  refine aw_get (npc := 38) dX0_hasOf_35 rfl kf_X0_15 f1 rfl ?_
  refine aw_iload_n (npc := 39) rfl dX0_hasOf_38 rfl ?_
  refine aw_iload_n (npc := 40) rfl dX0_hasOf_39 rfl ?_
  refine aw_callSN (npc := 43) (N := mX7_carePlace) (mc := 0) (ms := 0) (A := [.int 0, .int 1]) (S := [.ref 3, .int 5]) (L0 := [some (.int 0), some (.int 1)]) dX0_hasOf_40 rfl km_X7_carePlace kk_X0_87 rfl ⟨rfl, by decide⟩ rfl (Nat.le_of_ble_eq_true rfl) (Nat.zero_add _) (Nat.zero_add _) rfl ?_
  refine aw_iload_n (npc := 1) rfl dX7_carePlace_0 rfl ?_
  refine aw_iconst (npc := 2) (v := 4) (by decide) dX7_carePlace_1 rfl ?_
  refine aw_imulV (npc := 3) (v := 0) dX7_carePlace_2 rfl (by decide) ?_
  refine aw_iload_n (npc := 4) rfl dX7_carePlace_3 rfl ?_
  refine aw_iaddV (npc := 5) (v := 1) dX7_carePlace_4 rfl (by decide) ?_
  refine aw_iret rfl dX7_carePlace_5 ?_
  refine aw_re (S' := [.int 1, .ref 3, .int 5]) rfl ?_
  refine aw_iald (npc := 44) (x := 1) (j := 1) dX0_hasOf_43 rfl f3 ⟨by decide, by decide⟩ rfl ?_
  refine aw_iload (npc := 46) rfl dX0_hasOf_44 rfl ?_
  refine aw_imulV (npc := 47) (v := 5) dX0_hasOf_46 rfl (by decide) ?_
  refine aw_iaddV (npc := 48) (v := 10) dX0_hasOf_47 rfl (by decide) ?_
  refine aw_istore_n (npc := 49) (L' := [some (.ref 1), some (.int 0), some (.int 10), some (.int 1), some (.int 5)]) dX0_hasOf_48 rfl (by decide) rfl rfl ?_
  refine aw_iinc (npc := 52) (v := 2) (L' := [some (.ref 1), some (.int 0), some (.int 10), some (.int 2), some (.int 5)]) dX0_hasOf_49 rfl rfl (by decide) (by decide) rfl rfl ?_
  refine aw_goto (npc := 4) dX0_hasOf_52 (by decide) ?_
  refine aw_iload_n (npc := 5) rfl dX0_hasOf_4 rfl ?_
  refine aw_iconst (npc := 6) (v := 4) (by decide) dX0_hasOf_5 rfl ?_
  refine aw_icmp_ge (npc := 9) (tgt := 55) dX0_hasOf_6 rfl (by decide) (fun hc => absurd hc (by decide)) (fun _ => ?_)
  refine aw_iload_n (npc := 10) rfl dX0_hasOf_9 rfl ?_
  refine aw_if_ne (npc := 13) (tgt := 22) dX0_hasOf_10 rfl (by decide) (fun hc => absurd (by decide) hc) (fun _ => ?_)
  refine aw_aload_n (npc := 14) rfl dX0_hasOf_13 rfl ?_
  refine aw_get (npc := 17) dX0_hasOf_14 rfl kf_X0_9 f1 rfl ?_
  refine aw_iload_n (npc := 18) rfl dX0_hasOf_17 rfl ?_
  refine aw_iald (npc := 19) (x := 5) (j := 2) dX0_hasOf_18 rfl f2 ⟨by decide, by decide⟩ rfl ?_
  refine aw_goto (npc := 31) dX0_hasOf_19 (by decide) ?_
  refine aw_istore (npc := 33) (L' := [some (.ref 1), some (.int 0), some (.int 10), some (.int 2), some (.int 5)]) dX0_hasOf_31 rfl (by decide) rfl rfl ?_
  refine aw_iload_n (npc := 34) rfl dX0_hasOf_33 rfl ?_
  refine aw_aload_n (npc := 35) rfl dX0_hasOf_34 rfl ?_
  refine aw_get (npc := 38) dX0_hasOf_35 rfl kf_X0_15 f1 rfl ?_
  refine aw_iload_n (npc := 39) rfl dX0_hasOf_38 rfl ?_
  refine aw_iload_n (npc := 40) rfl dX0_hasOf_39 rfl ?_
  refine aw_callSN (npc := 43) (N := mX7_carePlace) (mc := 0) (ms := 0) (A := [.int 0, .int 2]) (S := [.ref 3, .int 10]) (L0 := [some (.int 0), some (.int 2)]) dX0_hasOf_40 rfl km_X7_carePlace kk_X0_87 rfl ⟨rfl, by decide⟩ rfl (Nat.le_of_ble_eq_true rfl) (Nat.zero_add _) (Nat.zero_add _) rfl ?_
  refine aw_iload_n (npc := 1) rfl dX7_carePlace_0 rfl ?_
  refine aw_iconst (npc := 2) (v := 4) (by decide) dX7_carePlace_1 rfl ?_
  refine aw_imulV (npc := 3) (v := 0) dX7_carePlace_2 rfl (by decide) ?_
  refine aw_iload_n (npc := 4) rfl dX7_carePlace_3 rfl ?_
  refine aw_iaddV (npc := 5) (v := 2) dX7_carePlace_4 rfl (by decide) ?_
  refine aw_iret rfl dX7_carePlace_5 ?_
  refine aw_re (S' := [.int 2, .ref 3, .int 10]) rfl ?_
  refine aw_iald (npc := 44) (x := 1) (j := 2) dX0_hasOf_43 rfl f3 ⟨by decide, by decide⟩ rfl ?_
  refine aw_iload (npc := 46) rfl dX0_hasOf_44 rfl ?_
  refine aw_imulV (npc := 47) (v := 5) dX0_hasOf_46 rfl (by decide) ?_
  refine aw_iaddV (npc := 48) (v := 15) dX0_hasOf_47 rfl (by decide) ?_
  refine aw_istore_n (npc := 49) (L' := [some (.ref 1), some (.int 0), some (.int 15), some (.int 2), some (.int 5)]) dX0_hasOf_48 rfl (by decide) rfl rfl ?_
  refine aw_iinc (npc := 52) (v := 3) (L' := [some (.ref 1), some (.int 0), some (.int 15), some (.int 3), some (.int 5)]) dX0_hasOf_49 rfl rfl (by decide) (by decide) rfl rfl ?_
  refine aw_goto (npc := 4) dX0_hasOf_52 (by decide) ?_
  refine aw_iload_n (npc := 5) rfl dX0_hasOf_4 rfl ?_
  refine aw_iconst (npc := 6) (v := 4) (by decide) dX0_hasOf_5 rfl ?_
  refine aw_icmp_ge (npc := 9) (tgt := 55) dX0_hasOf_6 rfl (by decide) (fun hc => absurd hc (by decide)) (fun _ => ?_)
  refine aw_iload_n (npc := 10) rfl dX0_hasOf_9 rfl ?_
  refine aw_if_ne (npc := 13) (tgt := 22) dX0_hasOf_10 rfl (by decide) (fun hc => absurd (by decide) hc) (fun _ => ?_)
  refine aw_aload_n (npc := 14) rfl dX0_hasOf_13 rfl ?_
  refine aw_get (npc := 17) dX0_hasOf_14 rfl kf_X0_9 f1 rfl ?_
  refine aw_iload_n (npc := 18) rfl dX0_hasOf_17 rfl ?_
  refine aw_iald (npc := 19) (x := 5) (j := 3) dX0_hasOf_18 rfl f2 ⟨by decide, by decide⟩ rfl ?_
  refine aw_goto (npc := 31) dX0_hasOf_19 (by decide) ?_
  refine aw_istore (npc := 33) (L' := [some (.ref 1), some (.int 0), some (.int 15), some (.int 3), some (.int 5)]) dX0_hasOf_31 rfl (by decide) rfl rfl ?_
  refine aw_iload_n (npc := 34) rfl dX0_hasOf_33 rfl ?_
  refine aw_aload_n (npc := 35) rfl dX0_hasOf_34 rfl ?_
  refine aw_get (npc := 38) dX0_hasOf_35 rfl kf_X0_15 f1 rfl ?_
  refine aw_iload_n (npc := 39) rfl dX0_hasOf_38 rfl ?_
  refine aw_iload_n (npc := 40) rfl dX0_hasOf_39 rfl ?_
  refine aw_callSN (npc := 43) (N := mX7_carePlace) (mc := 0) (ms := 0) (A := [.int 0, .int 3]) (S := [.ref 3, .int 15]) (L0 := [some (.int 0), some (.int 3)]) dX0_hasOf_40 rfl km_X7_carePlace kk_X0_87 rfl ⟨rfl, by decide⟩ rfl (Nat.le_of_ble_eq_true rfl) (Nat.zero_add _) (Nat.zero_add _) rfl ?_
  refine aw_iload_n (npc := 1) rfl dX7_carePlace_0 rfl ?_
  refine aw_iconst (npc := 2) (v := 4) (by decide) dX7_carePlace_1 rfl ?_
  refine aw_imulV (npc := 3) (v := 0) dX7_carePlace_2 rfl (by decide) ?_
  refine aw_iload_n (npc := 4) rfl dX7_carePlace_3 rfl ?_
  refine aw_iaddV (npc := 5) (v := 3) dX7_carePlace_4 rfl (by decide) ?_
  refine aw_iret rfl dX7_carePlace_5 ?_
  refine aw_re (S' := [.int 3, .ref 3, .int 15]) rfl ?_
  refine aw_iald (npc := 44) (x := 1) (j := 3) dX0_hasOf_43 rfl f3 ⟨by decide, by decide⟩ rfl ?_
  refine aw_iload (npc := 46) rfl dX0_hasOf_44 rfl ?_
  refine aw_imulV (npc := 47) (v := 5) dX0_hasOf_46 rfl (by decide) ?_
  refine aw_iaddV (npc := 48) (v := 20) dX0_hasOf_47 rfl (by decide) ?_
  refine aw_istore_n (npc := 49) (L' := [some (.ref 1), some (.int 0), some (.int 20), some (.int 3), some (.int 5)]) dX0_hasOf_48 rfl (by decide) rfl rfl ?_
  refine aw_iinc (npc := 52) (v := 4) (L' := [some (.ref 1), some (.int 0), some (.int 20), some (.int 4), some (.int 5)]) dX0_hasOf_49 rfl rfl (by decide) (by decide) rfl rfl ?_
  refine aw_goto (npc := 4) dX0_hasOf_52 (by decide) ?_
  refine aw_iload_n (npc := 5) rfl dX0_hasOf_4 rfl ?_
  refine aw_iconst (npc := 6) (v := 4) (by decide) dX0_hasOf_5 rfl ?_
  refine aw_icmp_ge (npc := 9) (tgt := 55) dX0_hasOf_6 rfl (by decide) (fun _ => ?_) (fun hc => absurd (by decide) hc)
  refine aw_iload_n (npc := 56) rfl dX0_hasOf_55 rfl ?_
  refine aw_iret rfl dX0_hasOf_56 ?_
  refine aw_re (S' := [.int 20]) rfl ?_
  refine aw_aload_n (npc := 6) rfl dX0_isPeace_5 rfl ?_
  refine aw_get (npc := 9) dX0_isPeace_6 rfl kf_X0_18 f1 rfl ?_
  refine aw_iconst (npc := 10) (v := 0) (by decide) dX0_isPeace_9 rfl ?_
  refine aw_iald (npc := 11) (x := 20) (j := 0) dX0_isPeace_10 rfl f4 ⟨by decide, by decide⟩ rfl ?_
  refine aw_icmp_lt (npc := 14) (tgt := 32) dX0_isPeace_11 rfl (by decide) (fun hc => absurd hc (by decide)) (fun _ => ?_)
  refine aw_aload_n (npc := 15) rfl dX0_isPeace_14 rfl ?_
  refine aw_iconst (npc := 16) (v := 1) (by decide) dX0_isPeace_15 rfl ?_
  refine aw_callV (npc := 19) (N := mX0_hasOf) (b := 1) (mc := 0) (ms := 0) (A := [.int 1]) (S := []) (L0 := [some (.ref 1), some (.int 1), none, none, none]) dX0_isPeace_16 rfl km_X0_hasOf kk_X0_91 f1 ⟨by decide, rfl⟩ rfl ⟨rfl, by decide⟩ rfl (Nat.le_of_ble_eq_true rfl) (Nat.zero_add _) (Nat.zero_add _) rfl ?_
  refine aw_iconst (npc := 1) (v := 0) (by decide) dX0_hasOf_0 rfl ?_
  refine aw_istore_n (npc := 2) (L' := [some (.ref 1), some (.int 1), some (.int 0), none, none]) dX0_hasOf_1 rfl (by decide) rfl rfl ?_
  refine aw_iconst (npc := 3) (v := 0) (by decide) dX0_hasOf_2 rfl ?_
  refine aw_istore_n (npc := 4) (L' := [some (.ref 1), some (.int 1), some (.int 0), some (.int 0), none]) dX0_hasOf_3 rfl (by decide) rfl rfl ?_
  refine aw_iload_n (npc := 5) rfl dX0_hasOf_4 rfl ?_
  refine aw_iconst (npc := 6) (v := 4) (by decide) dX0_hasOf_5 rfl ?_
  refine aw_icmp_ge (npc := 9) (tgt := 55) dX0_hasOf_6 rfl (by decide) (fun hc => absurd hc (by decide)) (fun _ => ?_)
  refine aw_iload_n (npc := 10) rfl dX0_hasOf_9 rfl ?_
  refine aw_if_ne (npc := 13) (tgt := 22) dX0_hasOf_10 rfl (by decide) (fun _ => ?_) (fun hc => absurd hc (by decide))
  refine aw_bipush (npc := 24) (v := 9) (by decide) dX0_hasOf_22 rfl ?_
  refine aw_aload_n (npc := 25) rfl dX0_hasOf_24 rfl ?_
  refine aw_get (npc := 28) dX0_hasOf_25 rfl kf_X0_9 f1 rfl ?_
  refine aw_iload_n (npc := 29) rfl dX0_hasOf_28 rfl ?_
  refine aw_iald (npc := 30) (x := 5) (j := 0) dX0_hasOf_29 rfl f2 ⟨by decide, by decide⟩ rfl ?_
  refine aw_isubV (npc := 31) (v := 4) dX0_hasOf_30 rfl (by decide) ?_
  refine aw_istore (npc := 33) (L' := [some (.ref 1), some (.int 1), some (.int 0), some (.int 0), some (.int 4)]) dX0_hasOf_31 rfl (by decide) rfl rfl ?_
  refine aw_iload_n (npc := 34) rfl dX0_hasOf_33 rfl ?_
  refine aw_aload_n (npc := 35) rfl dX0_hasOf_34 rfl ?_
  refine aw_get (npc := 38) dX0_hasOf_35 rfl kf_X0_15 f1 rfl ?_
  refine aw_iload_n (npc := 39) rfl dX0_hasOf_38 rfl ?_
  refine aw_iload_n (npc := 40) rfl dX0_hasOf_39 rfl ?_
  refine aw_callSN (npc := 43) (N := mX7_carePlace) (mc := 0) (ms := 0) (A := [.int 1, .int 0]) (S := [.ref 3, .int 0]) (L0 := [some (.int 1), some (.int 0)]) dX0_hasOf_40 rfl km_X7_carePlace kk_X0_87 rfl ⟨rfl, by decide⟩ rfl (Nat.le_of_ble_eq_true rfl) (Nat.zero_add _) (Nat.zero_add _) rfl ?_
  refine aw_iload_n (npc := 1) rfl dX7_carePlace_0 rfl ?_
  refine aw_iconst (npc := 2) (v := 4) (by decide) dX7_carePlace_1 rfl ?_
  refine aw_imulV (npc := 3) (v := 4) dX7_carePlace_2 rfl (by decide) ?_
  refine aw_iload_n (npc := 4) rfl dX7_carePlace_3 rfl ?_
  refine aw_iaddV (npc := 5) (v := 4) dX7_carePlace_4 rfl (by decide) ?_
  refine aw_iret rfl dX7_carePlace_5 ?_
  refine aw_re (S' := [.int 4, .ref 3, .int 0]) rfl ?_
  refine aw_iald (npc := 44) (x := 1) (j := 4) dX0_hasOf_43 rfl f3 ⟨by decide, by decide⟩ rfl ?_
  refine aw_iload (npc := 46) rfl dX0_hasOf_44 rfl ?_
  refine aw_imulV (npc := 47) (v := 4) dX0_hasOf_46 rfl (by decide) ?_
  refine aw_iaddV (npc := 48) (v := 4) dX0_hasOf_47 rfl (by decide) ?_
  refine aw_istore_n (npc := 49) (L' := [some (.ref 1), some (.int 1), some (.int 4), some (.int 0), some (.int 4)]) dX0_hasOf_48 rfl (by decide) rfl rfl ?_
  refine aw_iinc (npc := 52) (v := 1) (L' := [some (.ref 1), some (.int 1), some (.int 4), some (.int 1), some (.int 4)]) dX0_hasOf_49 rfl rfl (by decide) (by decide) rfl rfl ?_
  refine aw_goto (npc := 4) dX0_hasOf_52 (by decide) ?_
  refine aw_iload_n (npc := 5) rfl dX0_hasOf_4 rfl ?_
  refine aw_iconst (npc := 6) (v := 4) (by decide) dX0_hasOf_5 rfl ?_
  refine aw_icmp_ge (npc := 9) (tgt := 55) dX0_hasOf_6 rfl (by decide) (fun hc => absurd hc (by decide)) (fun _ => ?_)
  refine aw_iload_n (npc := 10) rfl dX0_hasOf_9 rfl ?_
  refine aw_if_ne (npc := 13) (tgt := 22) dX0_hasOf_10 rfl (by decide) (fun _ => ?_) (fun hc => absurd hc (by decide))
  refine aw_bipush (npc := 24) (v := 9) (by decide) dX0_hasOf_22 rfl ?_
  refine aw_aload_n (npc := 25) rfl dX0_hasOf_24 rfl ?_
  refine aw_get (npc := 28) dX0_hasOf_25 rfl kf_X0_9 f1 rfl ?_
  refine aw_iload_n (npc := 29) rfl dX0_hasOf_28 rfl ?_
  refine aw_iald (npc := 30) (x := 5) (j := 1) dX0_hasOf_29 rfl f2 ⟨by decide, by decide⟩ rfl ?_
  refine aw_isubV (npc := 31) (v := 4) dX0_hasOf_30 rfl (by decide) ?_
  refine aw_istore (npc := 33) (L' := [some (.ref 1), some (.int 1), some (.int 4), some (.int 1), some (.int 4)]) dX0_hasOf_31 rfl (by decide) rfl rfl ?_
  refine aw_iload_n (npc := 34) rfl dX0_hasOf_33 rfl ?_
  refine aw_aload_n (npc := 35) rfl dX0_hasOf_34 rfl ?_
  refine aw_get (npc := 38) dX0_hasOf_35 rfl kf_X0_15 f1 rfl ?_
  refine aw_iload_n (npc := 39) rfl dX0_hasOf_38 rfl ?_
  refine aw_iload_n (npc := 40) rfl dX0_hasOf_39 rfl ?_
  refine aw_callSN (npc := 43) (N := mX7_carePlace) (mc := 0) (ms := 0) (A := [.int 1, .int 1]) (S := [.ref 3, .int 4]) (L0 := [some (.int 1), some (.int 1)]) dX0_hasOf_40 rfl km_X7_carePlace kk_X0_87 rfl ⟨rfl, by decide⟩ rfl (Nat.le_of_ble_eq_true rfl) (Nat.zero_add _) (Nat.zero_add _) rfl ?_
  refine aw_iload_n (npc := 1) rfl dX7_carePlace_0 rfl ?_
  refine aw_iconst (npc := 2) (v := 4) (by decide) dX7_carePlace_1 rfl ?_
  refine aw_imulV (npc := 3) (v := 4) dX7_carePlace_2 rfl (by decide) ?_
  refine aw_iload_n (npc := 4) rfl dX7_carePlace_3 rfl ?_
  refine aw_iaddV (npc := 5) (v := 5) dX7_carePlace_4 rfl (by decide) ?_
  refine aw_iret rfl dX7_carePlace_5 ?_
  refine aw_re (S' := [.int 5, .ref 3, .int 4]) rfl ?_
  refine aw_iald (npc := 44) (x := 1) (j := 5) dX0_hasOf_43 rfl f3 ⟨by decide, by decide⟩ rfl ?_
  refine aw_iload (npc := 46) rfl dX0_hasOf_44 rfl ?_
  refine aw_imulV (npc := 47) (v := 4) dX0_hasOf_46 rfl (by decide) ?_
  refine aw_iaddV (npc := 48) (v := 8) dX0_hasOf_47 rfl (by decide) ?_
  refine aw_istore_n (npc := 49) (L' := [some (.ref 1), some (.int 1), some (.int 8), some (.int 1), some (.int 4)]) dX0_hasOf_48 rfl (by decide) rfl rfl ?_
  refine aw_iinc (npc := 52) (v := 2) (L' := [some (.ref 1), some (.int 1), some (.int 8), some (.int 2), some (.int 4)]) dX0_hasOf_49 rfl rfl (by decide) (by decide) rfl rfl ?_
  refine aw_goto (npc := 4) dX0_hasOf_52 (by decide) ?_
  refine aw_iload_n (npc := 5) rfl dX0_hasOf_4 rfl ?_
  refine aw_iconst (npc := 6) (v := 4) (by decide) dX0_hasOf_5 rfl ?_
  refine aw_icmp_ge (npc := 9) (tgt := 55) dX0_hasOf_6 rfl (by decide) (fun hc => absurd hc (by decide)) (fun _ => ?_)
  refine aw_iload_n (npc := 10) rfl dX0_hasOf_9 rfl ?_
  refine aw_if_ne (npc := 13) (tgt := 22) dX0_hasOf_10 rfl (by decide) (fun _ => ?_) (fun hc => absurd hc (by decide))
  refine aw_bipush (npc := 24) (v := 9) (by decide) dX0_hasOf_22 rfl ?_
  refine aw_aload_n (npc := 25) rfl dX0_hasOf_24 rfl ?_
  refine aw_get (npc := 28) dX0_hasOf_25 rfl kf_X0_9 f1 rfl ?_
  refine aw_iload_n (npc := 29) rfl dX0_hasOf_28 rfl ?_
  refine aw_iald (npc := 30) (x := 5) (j := 2) dX0_hasOf_29 rfl f2 ⟨by decide, by decide⟩ rfl ?_
  refine aw_isubV (npc := 31) (v := 4) dX0_hasOf_30 rfl (by decide) ?_
  refine aw_istore (npc := 33) (L' := [some (.ref 1), some (.int 1), some (.int 8), some (.int 2), some (.int 4)]) dX0_hasOf_31 rfl (by decide) rfl rfl ?_
  refine aw_iload_n (npc := 34) rfl dX0_hasOf_33 rfl ?_
  refine aw_aload_n (npc := 35) rfl dX0_hasOf_34 rfl ?_
  refine aw_get (npc := 38) dX0_hasOf_35 rfl kf_X0_15 f1 rfl ?_
  refine aw_iload_n (npc := 39) rfl dX0_hasOf_38 rfl ?_
  refine aw_iload_n (npc := 40) rfl dX0_hasOf_39 rfl ?_
  refine aw_callSN (npc := 43) (N := mX7_carePlace) (mc := 0) (ms := 0) (A := [.int 1, .int 2]) (S := [.ref 3, .int 8]) (L0 := [some (.int 1), some (.int 2)]) dX0_hasOf_40 rfl km_X7_carePlace kk_X0_87 rfl ⟨rfl, by decide⟩ rfl (Nat.le_of_ble_eq_true rfl) (Nat.zero_add _) (Nat.zero_add _) rfl ?_
  refine aw_iload_n (npc := 1) rfl dX7_carePlace_0 rfl ?_
  refine aw_iconst (npc := 2) (v := 4) (by decide) dX7_carePlace_1 rfl ?_
  refine aw_imulV (npc := 3) (v := 4) dX7_carePlace_2 rfl (by decide) ?_
  refine aw_iload_n (npc := 4) rfl dX7_carePlace_3 rfl ?_
  refine aw_iaddV (npc := 5) (v := 6) dX7_carePlace_4 rfl (by decide) ?_
  refine aw_iret rfl dX7_carePlace_5 ?_
  refine aw_re (S' := [.int 6, .ref 3, .int 8]) rfl ?_
  refine aw_iald (npc := 44) (x := 1) (j := 6) dX0_hasOf_43 rfl f3 ⟨by decide, by decide⟩ rfl ?_
  refine aw_iload (npc := 46) rfl dX0_hasOf_44 rfl ?_
  refine aw_imulV (npc := 47) (v := 4) dX0_hasOf_46 rfl (by decide) ?_
  refine aw_iaddV (npc := 48) (v := 12) dX0_hasOf_47 rfl (by decide) ?_
  refine aw_istore_n (npc := 49) (L' := [some (.ref 1), some (.int 1), some (.int 12), some (.int 2), some (.int 4)]) dX0_hasOf_48 rfl (by decide) rfl rfl ?_
  refine aw_iinc (npc := 52) (v := 3) (L' := [some (.ref 1), some (.int 1), some (.int 12), some (.int 3), some (.int 4)]) dX0_hasOf_49 rfl rfl (by decide) (by decide) rfl rfl ?_
  refine aw_goto (npc := 4) dX0_hasOf_52 (by decide) ?_
  refine aw_iload_n (npc := 5) rfl dX0_hasOf_4 rfl ?_
  refine aw_iconst (npc := 6) (v := 4) (by decide) dX0_hasOf_5 rfl ?_
  refine aw_icmp_ge (npc := 9) (tgt := 55) dX0_hasOf_6 rfl (by decide) (fun hc => absurd hc (by decide)) (fun _ => ?_)
  refine aw_iload_n (npc := 10) rfl dX0_hasOf_9 rfl ?_
  refine aw_if_ne (npc := 13) (tgt := 22) dX0_hasOf_10 rfl (by decide) (fun _ => ?_) (fun hc => absurd hc (by decide))
  refine aw_bipush (npc := 24) (v := 9) (by decide) dX0_hasOf_22 rfl ?_
  refine aw_aload_n (npc := 25) rfl dX0_hasOf_24 rfl ?_
  refine aw_get (npc := 28) dX0_hasOf_25 rfl kf_X0_9 f1 rfl ?_
  refine aw_iload_n (npc := 29) rfl dX0_hasOf_28 rfl ?_
  refine aw_iald (npc := 30) (x := 5) (j := 3) dX0_hasOf_29 rfl f2 ⟨by decide, by decide⟩ rfl ?_
  refine aw_isubV (npc := 31) (v := 4) dX0_hasOf_30 rfl (by decide) ?_
  refine aw_istore (npc := 33) (L' := [some (.ref 1), some (.int 1), some (.int 12), some (.int 3), some (.int 4)]) dX0_hasOf_31 rfl (by decide) rfl rfl ?_
  refine aw_iload_n (npc := 34) rfl dX0_hasOf_33 rfl ?_
  refine aw_aload_n (npc := 35) rfl dX0_hasOf_34 rfl ?_
  refine aw_get (npc := 38) dX0_hasOf_35 rfl kf_X0_15 f1 rfl ?_
  refine aw_iload_n (npc := 39) rfl dX0_hasOf_38 rfl ?_
  refine aw_iload_n (npc := 40) rfl dX0_hasOf_39 rfl ?_
  refine aw_callSN (npc := 43) (N := mX7_carePlace) (mc := 0) (ms := 0) (A := [.int 1, .int 3]) (S := [.ref 3, .int 12]) (L0 := [some (.int 1), some (.int 3)]) dX0_hasOf_40 rfl km_X7_carePlace kk_X0_87 rfl ⟨rfl, by decide⟩ rfl (Nat.le_of_ble_eq_true rfl) (Nat.zero_add _) (Nat.zero_add _) rfl ?_
  refine aw_iload_n (npc := 1) rfl dX7_carePlace_0 rfl ?_
  refine aw_iconst (npc := 2) (v := 4) (by decide) dX7_carePlace_1 rfl ?_
  refine aw_imulV (npc := 3) (v := 4) dX7_carePlace_2 rfl (by decide) ?_
  refine aw_iload_n (npc := 4) rfl dX7_carePlace_3 rfl ?_
  refine aw_iaddV (npc := 5) (v := 7) dX7_carePlace_4 rfl (by decide) ?_
  refine aw_iret rfl dX7_carePlace_5 ?_
  refine aw_re (S' := [.int 7, .ref 3, .int 12]) rfl ?_
  refine aw_iald (npc := 44) (x := 1) (j := 7) dX0_hasOf_43 rfl f3 ⟨by decide, by decide⟩ rfl ?_
  refine aw_iload (npc := 46) rfl dX0_hasOf_44 rfl ?_
  refine aw_imulV (npc := 47) (v := 4) dX0_hasOf_46 rfl (by decide) ?_
  refine aw_iaddV (npc := 48) (v := 16) dX0_hasOf_47 rfl (by decide) ?_
  refine aw_istore_n (npc := 49) (L' := [some (.ref 1), some (.int 1), some (.int 16), some (.int 3), some (.int 4)]) dX0_hasOf_48 rfl (by decide) rfl rfl ?_
  refine aw_iinc (npc := 52) (v := 4) (L' := [some (.ref 1), some (.int 1), some (.int 16), some (.int 4), some (.int 4)]) dX0_hasOf_49 rfl rfl (by decide) (by decide) rfl rfl ?_
  refine aw_goto (npc := 4) dX0_hasOf_52 (by decide) ?_
  refine aw_iload_n (npc := 5) rfl dX0_hasOf_4 rfl ?_
  refine aw_iconst (npc := 6) (v := 4) (by decide) dX0_hasOf_5 rfl ?_
  refine aw_icmp_ge (npc := 9) (tgt := 55) dX0_hasOf_6 rfl (by decide) (fun _ => ?_) (fun hc => absurd (by decide) hc)
  refine aw_iload_n (npc := 56) rfl dX0_hasOf_55 rfl ?_
  refine aw_iret rfl dX0_hasOf_56 ?_
  refine aw_re (S' := [.int 16]) rfl ?_
  refine aw_aload_n (npc := 20) rfl dX0_isPeace_19 rfl ?_
  refine aw_get (npc := 23) dX0_isPeace_20 rfl kf_X0_18 f1 rfl ?_
  refine aw_iconst (npc := 24) (v := 1) (by decide) dX0_isPeace_23 rfl ?_
  refine aw_iald (npc := 25) (x := 20) (j := 1) dX0_isPeace_24 rfl f4 ⟨by decide, by decide⟩ rfl ?_
  refine aw_icmp_lt (npc := 28) (tgt := 32) dX0_isPeace_25 rfl (by decide) (fun _ => ?_) (fun hc => absurd (by decide) hc)
  refine aw_iconst (npc := 33) (v := 0) (by decide) dX0_isPeace_32 rfl ?_
  refine aw_zret rfl rfl dX0_isPeace_33 ?_
  exact hq
set_option maxHeartbeats 40000000 in
set_option maxRecDepth 100000 in
theorem p_runL_13 {X : List Int32} {d rc rs nn : Nat} {Q : am_Q} {hv pt wo : Int32} (hh : wi hv 0 99) (N : Nat) (hN : N < 1000) : ∀ (m j : Nat), j + m = N → ∀ (h : am_H), fq13 hv pt h → (∀ (i : Int32) (h9 : am_H), fq13 hv pt h9 → am_fb 13 25 h9 h → AW X mX0_runPosts (d + 8) rc rs 39 [some (.ref 13), some (.int (nI N)), some (.int wo), some (.int 0), some (.int i)] [] nn h9 Q) → AW X mX0_runPosts (d + 8) rc rs 5 [some (.ref 13), some (.int (nI N)), some (.int wo), some (.int 0), some (.int (nI j))] [] nn h Q := by
  intro m
  induction m with
  | zero =>
    intro j hj h F hx
    obtain rfl : j = N := by omega
    refine aw_iload (npc := 7) rfl dX0_runPosts_5 rfl ?_
    refine aw_iload_n (npc := 8) rfl dX0_runPosts_7 rfl ?_
    exact aw_icmp_ge (npc := 11) (tgt := 39) dX0_runPosts_8 rfl (by decide) (fun _ => hx _ h F am_fb0) (fun hc => absurd (nI_le (Nat.le_refl _) (by omega)) hc)
  | succ m ih =>
    intro j hj h F hx
    obtain ⟨f13, f14, f15, f16, f17, f18, f19, f20, f21, f22, f23, f24⟩ := F
    refine aw_iload (npc := 7) rfl dX0_runPosts_5 rfl ?_
    refine aw_iload_n (npc := 8) rfl dX0_runPosts_7 rfl ?_
    refine aw_icmp_ge (npc := 11) (tgt := 39) dX0_runPosts_8 rfl (by decide) (fun hc => absurd hc (nI_ge (by omega) (by omega))) (fun _ => ?_)
    refine aw_aload_n (npc := 12) rfl dX0_runPosts_11 rfl ?_
    refine aw_callV (npc := 15) (N := mX0_isPeace) (b := 13) (mc := 0) (ms := 0) (A := []) (S := []) (L0 := [some (.ref 13)]) dX0_runPosts_12 rfl km_X0_isPeace kk_X0_117 f13 ⟨by decide, rfl⟩ rfl ⟨rfl, by decide⟩ rfl (Nat.le_of_ble_eq_true rfl) (Nat.zero_add _) (Nat.zero_add _) rfl ?_
    refine aw_aload_n (npc := 1) rfl dX0_isPeace_0 rfl ?_
    refine aw_iconst (npc := 2) (v := 0) (by decide) dX0_isPeace_1 rfl ?_
    refine aw_callV (npc := 5) (N := mX0_hasOf) (b := 13) (mc := 0) (ms := 0) (A := [.int 0]) (S := []) (L0 := [some (.ref 13), some (.int 0), none, none, none]) dX0_isPeace_2 rfl km_X0_hasOf kk_X0_91 f13 ⟨by decide, rfl⟩ rfl ⟨rfl, by decide⟩ rfl (Nat.le_of_ble_eq_true rfl) (Nat.zero_add _) (Nat.zero_add _) rfl ?_
    refine aw_iconst (npc := 1) (v := 0) (by decide) dX0_hasOf_0 rfl ?_
    refine aw_istore_n (npc := 2) (L' := [some (.ref 13), some (.int 0), some (.int 0), none, none]) dX0_hasOf_1 rfl (by decide) rfl rfl ?_
    refine aw_iconst (npc := 3) (v := 0) (by decide) dX0_hasOf_2 rfl ?_
    refine aw_istore_n (npc := 4) (L' := [some (.ref 13), some (.int 0), some (.int 0), some (.int 0), none]) dX0_hasOf_3 rfl (by decide) rfl rfl ?_
    refine aw_iload_n (npc := 5) rfl dX0_hasOf_4 rfl ?_
    refine aw_iconst (npc := 6) (v := 4) (by decide) dX0_hasOf_5 rfl ?_
    refine aw_icmp_ge (npc := 9) (tgt := 55) dX0_hasOf_6 rfl (by decide) (fun hc => absurd hc (by decide)) (fun _ => ?_)
    refine aw_iload_n (npc := 10) rfl dX0_hasOf_9 rfl ?_
    refine aw_if_ne (npc := 13) (tgt := 22) dX0_hasOf_10 rfl (by decide) (fun hc => absurd (by decide) hc) (fun _ => ?_)
    refine aw_aload_n (npc := 14) rfl dX0_hasOf_13 rfl ?_
    refine aw_get (npc := 17) dX0_hasOf_14 rfl kf_X0_9 f13 rfl ?_
    refine aw_iload_n (npc := 18) rfl dX0_hasOf_17 rfl ?_
    refine aw_iald (npc := 19) (x := 5) (j := 0) dX0_hasOf_18 rfl f14 ⟨by decide, by decide⟩ rfl ?_
    refine aw_goto (npc := 31) dX0_hasOf_19 (by decide) ?_
    refine aw_istore (npc := 33) (L' := [some (.ref 13), some (.int 0), some (.int 0), some (.int 0), some (.int 5)]) dX0_hasOf_31 rfl (by decide) rfl rfl ?_
    refine aw_iload_n (npc := 34) rfl dX0_hasOf_33 rfl ?_
    refine aw_aload_n (npc := 35) rfl dX0_hasOf_34 rfl ?_
    refine aw_get (npc := 38) dX0_hasOf_35 rfl kf_X0_15 f13 rfl ?_
    refine aw_iload_n (npc := 39) rfl dX0_hasOf_38 rfl ?_
    refine aw_iload_n (npc := 40) rfl dX0_hasOf_39 rfl ?_
    refine aw_callSN (npc := 43) (N := mX7_carePlace) (mc := 0) (ms := 0) (A := [.int 0, .int 0]) (S := [.ref 15, .int 0]) (L0 := [some (.int 0), some (.int 0)]) dX0_hasOf_40 rfl km_X7_carePlace kk_X0_87 rfl ⟨rfl, by decide⟩ rfl (Nat.le_of_ble_eq_true rfl) (Nat.zero_add _) (Nat.zero_add _) rfl ?_
    refine aw_iload_n (npc := 1) rfl dX7_carePlace_0 rfl ?_
    refine aw_iconst (npc := 2) (v := 4) (by decide) dX7_carePlace_1 rfl ?_
    refine aw_imulV (npc := 3) (v := 0) dX7_carePlace_2 rfl (by decide) ?_
    refine aw_iload_n (npc := 4) rfl dX7_carePlace_3 rfl ?_
    refine aw_iaddV (npc := 5) (v := 0) dX7_carePlace_4 rfl (by decide) ?_
    refine aw_iret rfl dX7_carePlace_5 ?_
    refine aw_re (S' := [.int 0, .ref 15, .int 0]) rfl ?_
    refine aw_iald (npc := 44) (x := 1) (j := 0) dX0_hasOf_43 rfl f15 ⟨by decide, by decide⟩ rfl ?_
    refine aw_iload (npc := 46) rfl dX0_hasOf_44 rfl ?_
    refine aw_imulV (npc := 47) (v := 5) dX0_hasOf_46 rfl (by decide) ?_
    refine aw_iaddV (npc := 48) (v := 5) dX0_hasOf_47 rfl (by decide) ?_
    refine aw_istore_n (npc := 49) (L' := [some (.ref 13), some (.int 0), some (.int 5), some (.int 0), some (.int 5)]) dX0_hasOf_48 rfl (by decide) rfl rfl ?_
    refine aw_iinc (npc := 52) (v := 1) (L' := [some (.ref 13), some (.int 0), some (.int 5), some (.int 1), some (.int 5)]) dX0_hasOf_49 rfl rfl (by decide) (by decide) rfl rfl ?_
    refine aw_goto (npc := 4) dX0_hasOf_52 (by decide) ?_
    refine aw_iload_n (npc := 5) rfl dX0_hasOf_4 rfl ?_
    refine aw_iconst (npc := 6) (v := 4) (by decide) dX0_hasOf_5 rfl ?_
    refine aw_icmp_ge (npc := 9) (tgt := 55) dX0_hasOf_6 rfl (by decide) (fun hc => absurd hc (by decide)) (fun _ => ?_)
    refine aw_iload_n (npc := 10) rfl dX0_hasOf_9 rfl ?_
    refine aw_if_ne (npc := 13) (tgt := 22) dX0_hasOf_10 rfl (by decide) (fun hc => absurd (by decide) hc) (fun _ => ?_)
    refine aw_aload_n (npc := 14) rfl dX0_hasOf_13 rfl ?_
    refine aw_get (npc := 17) dX0_hasOf_14 rfl kf_X0_9 f13 rfl ?_
    refine aw_iload_n (npc := 18) rfl dX0_hasOf_17 rfl ?_
    refine aw_iald (npc := 19) (x := 5) (j := 1) dX0_hasOf_18 rfl f14 ⟨by decide, by decide⟩ rfl ?_
    refine aw_goto (npc := 31) dX0_hasOf_19 (by decide) ?_
    refine aw_istore (npc := 33) (L' := [some (.ref 13), some (.int 0), some (.int 5), some (.int 1), some (.int 5)]) dX0_hasOf_31 rfl (by decide) rfl rfl ?_
    refine aw_iload_n (npc := 34) rfl dX0_hasOf_33 rfl ?_
    refine aw_aload_n (npc := 35) rfl dX0_hasOf_34 rfl ?_
    refine aw_get (npc := 38) dX0_hasOf_35 rfl kf_X0_15 f13 rfl ?_
    refine aw_iload_n (npc := 39) rfl dX0_hasOf_38 rfl ?_
    refine aw_iload_n (npc := 40) rfl dX0_hasOf_39 rfl ?_
    refine aw_callSN (npc := 43) (N := mX7_carePlace) (mc := 0) (ms := 0) (A := [.int 0, .int 1]) (S := [.ref 15, .int 5]) (L0 := [some (.int 0), some (.int 1)]) dX0_hasOf_40 rfl km_X7_carePlace kk_X0_87 rfl ⟨rfl, by decide⟩ rfl (Nat.le_of_ble_eq_true rfl) (Nat.zero_add _) (Nat.zero_add _) rfl ?_
    refine aw_iload_n (npc := 1) rfl dX7_carePlace_0 rfl ?_
    refine aw_iconst (npc := 2) (v := 4) (by decide) dX7_carePlace_1 rfl ?_
    refine aw_imulV (npc := 3) (v := 0) dX7_carePlace_2 rfl (by decide) ?_
    refine aw_iload_n (npc := 4) rfl dX7_carePlace_3 rfl ?_
    refine aw_iaddV (npc := 5) (v := 1) dX7_carePlace_4 rfl (by decide) ?_
    refine aw_iret rfl dX7_carePlace_5 ?_
    refine aw_re (S' := [.int 1, .ref 15, .int 5]) rfl ?_
    refine aw_iald (npc := 44) (x := 1) (j := 1) dX0_hasOf_43 rfl f15 ⟨by decide, by decide⟩ rfl ?_
    refine aw_iload (npc := 46) rfl dX0_hasOf_44 rfl ?_
    refine aw_imulV (npc := 47) (v := 5) dX0_hasOf_46 rfl (by decide) ?_
    refine aw_iaddV (npc := 48) (v := 10) dX0_hasOf_47 rfl (by decide) ?_
    refine aw_istore_n (npc := 49) (L' := [some (.ref 13), some (.int 0), some (.int 10), some (.int 1), some (.int 5)]) dX0_hasOf_48 rfl (by decide) rfl rfl ?_
    refine aw_iinc (npc := 52) (v := 2) (L' := [some (.ref 13), some (.int 0), some (.int 10), some (.int 2), some (.int 5)]) dX0_hasOf_49 rfl rfl (by decide) (by decide) rfl rfl ?_
    refine aw_goto (npc := 4) dX0_hasOf_52 (by decide) ?_
    refine aw_iload_n (npc := 5) rfl dX0_hasOf_4 rfl ?_
    refine aw_iconst (npc := 6) (v := 4) (by decide) dX0_hasOf_5 rfl ?_
    refine aw_icmp_ge (npc := 9) (tgt := 55) dX0_hasOf_6 rfl (by decide) (fun hc => absurd hc (by decide)) (fun _ => ?_)
    refine aw_iload_n (npc := 10) rfl dX0_hasOf_9 rfl ?_
    refine aw_if_ne (npc := 13) (tgt := 22) dX0_hasOf_10 rfl (by decide) (fun hc => absurd (by decide) hc) (fun _ => ?_)
    refine aw_aload_n (npc := 14) rfl dX0_hasOf_13 rfl ?_
    refine aw_get (npc := 17) dX0_hasOf_14 rfl kf_X0_9 f13 rfl ?_
    refine aw_iload_n (npc := 18) rfl dX0_hasOf_17 rfl ?_
    refine aw_iald (npc := 19) (x := 5) (j := 2) dX0_hasOf_18 rfl f14 ⟨by decide, by decide⟩ rfl ?_
    refine aw_goto (npc := 31) dX0_hasOf_19 (by decide) ?_
    refine aw_istore (npc := 33) (L' := [some (.ref 13), some (.int 0), some (.int 10), some (.int 2), some (.int 5)]) dX0_hasOf_31 rfl (by decide) rfl rfl ?_
    refine aw_iload_n (npc := 34) rfl dX0_hasOf_33 rfl ?_
    refine aw_aload_n (npc := 35) rfl dX0_hasOf_34 rfl ?_
    refine aw_get (npc := 38) dX0_hasOf_35 rfl kf_X0_15 f13 rfl ?_
    refine aw_iload_n (npc := 39) rfl dX0_hasOf_38 rfl ?_
    refine aw_iload_n (npc := 40) rfl dX0_hasOf_39 rfl ?_
    refine aw_callSN (npc := 43) (N := mX7_carePlace) (mc := 0) (ms := 0) (A := [.int 0, .int 2]) (S := [.ref 15, .int 10]) (L0 := [some (.int 0), some (.int 2)]) dX0_hasOf_40 rfl km_X7_carePlace kk_X0_87 rfl ⟨rfl, by decide⟩ rfl (Nat.le_of_ble_eq_true rfl) (Nat.zero_add _) (Nat.zero_add _) rfl ?_
    refine aw_iload_n (npc := 1) rfl dX7_carePlace_0 rfl ?_
    refine aw_iconst (npc := 2) (v := 4) (by decide) dX7_carePlace_1 rfl ?_
    refine aw_imulV (npc := 3) (v := 0) dX7_carePlace_2 rfl (by decide) ?_
    refine aw_iload_n (npc := 4) rfl dX7_carePlace_3 rfl ?_
    refine aw_iaddV (npc := 5) (v := 2) dX7_carePlace_4 rfl (by decide) ?_
    refine aw_iret rfl dX7_carePlace_5 ?_
    refine aw_re (S' := [.int 2, .ref 15, .int 10]) rfl ?_
    refine aw_iald (npc := 44) (x := 1) (j := 2) dX0_hasOf_43 rfl f15 ⟨by decide, by decide⟩ rfl ?_
    refine aw_iload (npc := 46) rfl dX0_hasOf_44 rfl ?_
    refine aw_imulV (npc := 47) (v := 5) dX0_hasOf_46 rfl (by decide) ?_
    refine aw_iaddV (npc := 48) (v := 15) dX0_hasOf_47 rfl (by decide) ?_
    refine aw_istore_n (npc := 49) (L' := [some (.ref 13), some (.int 0), some (.int 15), some (.int 2), some (.int 5)]) dX0_hasOf_48 rfl (by decide) rfl rfl ?_
    refine aw_iinc (npc := 52) (v := 3) (L' := [some (.ref 13), some (.int 0), some (.int 15), some (.int 3), some (.int 5)]) dX0_hasOf_49 rfl rfl (by decide) (by decide) rfl rfl ?_
    refine aw_goto (npc := 4) dX0_hasOf_52 (by decide) ?_
    refine aw_iload_n (npc := 5) rfl dX0_hasOf_4 rfl ?_
    refine aw_iconst (npc := 6) (v := 4) (by decide) dX0_hasOf_5 rfl ?_
    refine aw_icmp_ge (npc := 9) (tgt := 55) dX0_hasOf_6 rfl (by decide) (fun hc => absurd hc (by decide)) (fun _ => ?_)
    refine aw_iload_n (npc := 10) rfl dX0_hasOf_9 rfl ?_
    refine aw_if_ne (npc := 13) (tgt := 22) dX0_hasOf_10 rfl (by decide) (fun hc => absurd (by decide) hc) (fun _ => ?_)
    refine aw_aload_n (npc := 14) rfl dX0_hasOf_13 rfl ?_
    refine aw_get (npc := 17) dX0_hasOf_14 rfl kf_X0_9 f13 rfl ?_
    refine aw_iload_n (npc := 18) rfl dX0_hasOf_17 rfl ?_
    refine aw_iald (npc := 19) (x := 5) (j := 3) dX0_hasOf_18 rfl f14 ⟨by decide, by decide⟩ rfl ?_
    refine aw_goto (npc := 31) dX0_hasOf_19 (by decide) ?_
    refine aw_istore (npc := 33) (L' := [some (.ref 13), some (.int 0), some (.int 15), some (.int 3), some (.int 5)]) dX0_hasOf_31 rfl (by decide) rfl rfl ?_
    refine aw_iload_n (npc := 34) rfl dX0_hasOf_33 rfl ?_
    refine aw_aload_n (npc := 35) rfl dX0_hasOf_34 rfl ?_
    refine aw_get (npc := 38) dX0_hasOf_35 rfl kf_X0_15 f13 rfl ?_
    refine aw_iload_n (npc := 39) rfl dX0_hasOf_38 rfl ?_
    refine aw_iload_n (npc := 40) rfl dX0_hasOf_39 rfl ?_
    refine aw_callSN (npc := 43) (N := mX7_carePlace) (mc := 0) (ms := 0) (A := [.int 0, .int 3]) (S := [.ref 15, .int 15]) (L0 := [some (.int 0), some (.int 3)]) dX0_hasOf_40 rfl km_X7_carePlace kk_X0_87 rfl ⟨rfl, by decide⟩ rfl (Nat.le_of_ble_eq_true rfl) (Nat.zero_add _) (Nat.zero_add _) rfl ?_
    refine aw_iload_n (npc := 1) rfl dX7_carePlace_0 rfl ?_
    refine aw_iconst (npc := 2) (v := 4) (by decide) dX7_carePlace_1 rfl ?_
    refine aw_imulV (npc := 3) (v := 0) dX7_carePlace_2 rfl (by decide) ?_
    refine aw_iload_n (npc := 4) rfl dX7_carePlace_3 rfl ?_
    refine aw_iaddV (npc := 5) (v := 3) dX7_carePlace_4 rfl (by decide) ?_
    refine aw_iret rfl dX7_carePlace_5 ?_
    refine aw_re (S' := [.int 3, .ref 15, .int 15]) rfl ?_
    refine aw_iald (npc := 44) (x := 1) (j := 3) dX0_hasOf_43 rfl f15 ⟨by decide, by decide⟩ rfl ?_
    refine aw_iload (npc := 46) rfl dX0_hasOf_44 rfl ?_
    refine aw_imulV (npc := 47) (v := 5) dX0_hasOf_46 rfl (by decide) ?_
    refine aw_iaddV (npc := 48) (v := 20) dX0_hasOf_47 rfl (by decide) ?_
    refine aw_istore_n (npc := 49) (L' := [some (.ref 13), some (.int 0), some (.int 20), some (.int 3), some (.int 5)]) dX0_hasOf_48 rfl (by decide) rfl rfl ?_
    refine aw_iinc (npc := 52) (v := 4) (L' := [some (.ref 13), some (.int 0), some (.int 20), some (.int 4), some (.int 5)]) dX0_hasOf_49 rfl rfl (by decide) (by decide) rfl rfl ?_
    refine aw_goto (npc := 4) dX0_hasOf_52 (by decide) ?_
    refine aw_iload_n (npc := 5) rfl dX0_hasOf_4 rfl ?_
    refine aw_iconst (npc := 6) (v := 4) (by decide) dX0_hasOf_5 rfl ?_
    refine aw_icmp_ge (npc := 9) (tgt := 55) dX0_hasOf_6 rfl (by decide) (fun _ => ?_) (fun hc => absurd (by decide) hc)
    refine aw_iload_n (npc := 56) rfl dX0_hasOf_55 rfl ?_
    refine aw_iret rfl dX0_hasOf_56 ?_
    refine aw_re (S' := [.int 20]) rfl ?_
    refine aw_aload_n (npc := 6) rfl dX0_isPeace_5 rfl ?_
    refine aw_get (npc := 9) dX0_isPeace_6 rfl kf_X0_18 f13 rfl ?_
    refine aw_iconst (npc := 10) (v := 0) (by decide) dX0_isPeace_9 rfl ?_
    refine aw_iald (npc := 11) (x := 20) (j := 0) dX0_isPeace_10 rfl f16 ⟨by decide, by decide⟩ rfl ?_
    refine aw_icmp_lt (npc := 14) (tgt := 32) dX0_isPeace_11 rfl (by decide) (fun hc => absurd hc (by decide)) (fun _ => ?_)
    refine aw_aload_n (npc := 15) rfl dX0_isPeace_14 rfl ?_
    refine aw_iconst (npc := 16) (v := 1) (by decide) dX0_isPeace_15 rfl ?_
    refine aw_callV (npc := 19) (N := mX0_hasOf) (b := 13) (mc := 0) (ms := 0) (A := [.int 1]) (S := []) (L0 := [some (.ref 13), some (.int 1), none, none, none]) dX0_isPeace_16 rfl km_X0_hasOf kk_X0_91 f13 ⟨by decide, rfl⟩ rfl ⟨rfl, by decide⟩ rfl (Nat.le_of_ble_eq_true rfl) (Nat.zero_add _) (Nat.zero_add _) rfl ?_
    refine aw_iconst (npc := 1) (v := 0) (by decide) dX0_hasOf_0 rfl ?_
    refine aw_istore_n (npc := 2) (L' := [some (.ref 13), some (.int 1), some (.int 0), none, none]) dX0_hasOf_1 rfl (by decide) rfl rfl ?_
    refine aw_iconst (npc := 3) (v := 0) (by decide) dX0_hasOf_2 rfl ?_
    refine aw_istore_n (npc := 4) (L' := [some (.ref 13), some (.int 1), some (.int 0), some (.int 0), none]) dX0_hasOf_3 rfl (by decide) rfl rfl ?_
    refine aw_iload_n (npc := 5) rfl dX0_hasOf_4 rfl ?_
    refine aw_iconst (npc := 6) (v := 4) (by decide) dX0_hasOf_5 rfl ?_
    refine aw_icmp_ge (npc := 9) (tgt := 55) dX0_hasOf_6 rfl (by decide) (fun hc => absurd hc (by decide)) (fun _ => ?_)
    refine aw_iload_n (npc := 10) rfl dX0_hasOf_9 rfl ?_
    refine aw_if_ne (npc := 13) (tgt := 22) dX0_hasOf_10 rfl (by decide) (fun _ => ?_) (fun hc => absurd hc (by decide))
    refine aw_bipush (npc := 24) (v := 9) (by decide) dX0_hasOf_22 rfl ?_
    refine aw_aload_n (npc := 25) rfl dX0_hasOf_24 rfl ?_
    refine aw_get (npc := 28) dX0_hasOf_25 rfl kf_X0_9 f13 rfl ?_
    refine aw_iload_n (npc := 29) rfl dX0_hasOf_28 rfl ?_
    refine aw_iald (npc := 30) (x := 5) (j := 0) dX0_hasOf_29 rfl f14 ⟨by decide, by decide⟩ rfl ?_
    refine aw_isubV (npc := 31) (v := 4) dX0_hasOf_30 rfl (by decide) ?_
    refine aw_istore (npc := 33) (L' := [some (.ref 13), some (.int 1), some (.int 0), some (.int 0), some (.int 4)]) dX0_hasOf_31 rfl (by decide) rfl rfl ?_
    refine aw_iload_n (npc := 34) rfl dX0_hasOf_33 rfl ?_
    refine aw_aload_n (npc := 35) rfl dX0_hasOf_34 rfl ?_
    refine aw_get (npc := 38) dX0_hasOf_35 rfl kf_X0_15 f13 rfl ?_
    refine aw_iload_n (npc := 39) rfl dX0_hasOf_38 rfl ?_
    refine aw_iload_n (npc := 40) rfl dX0_hasOf_39 rfl ?_
    refine aw_callSN (npc := 43) (N := mX7_carePlace) (mc := 0) (ms := 0) (A := [.int 1, .int 0]) (S := [.ref 15, .int 0]) (L0 := [some (.int 1), some (.int 0)]) dX0_hasOf_40 rfl km_X7_carePlace kk_X0_87 rfl ⟨rfl, by decide⟩ rfl (Nat.le_of_ble_eq_true rfl) (Nat.zero_add _) (Nat.zero_add _) rfl ?_
    refine aw_iload_n (npc := 1) rfl dX7_carePlace_0 rfl ?_
    refine aw_iconst (npc := 2) (v := 4) (by decide) dX7_carePlace_1 rfl ?_
    refine aw_imulV (npc := 3) (v := 4) dX7_carePlace_2 rfl (by decide) ?_
    refine aw_iload_n (npc := 4) rfl dX7_carePlace_3 rfl ?_
    refine aw_iaddV (npc := 5) (v := 4) dX7_carePlace_4 rfl (by decide) ?_
    refine aw_iret rfl dX7_carePlace_5 ?_
    refine aw_re (S' := [.int 4, .ref 15, .int 0]) rfl ?_
    refine aw_iald (npc := 44) (x := 1) (j := 4) dX0_hasOf_43 rfl f15 ⟨by decide, by decide⟩ rfl ?_
    refine aw_iload (npc := 46) rfl dX0_hasOf_44 rfl ?_
    refine aw_imulV (npc := 47) (v := 4) dX0_hasOf_46 rfl (by decide) ?_
    refine aw_iaddV (npc := 48) (v := 4) dX0_hasOf_47 rfl (by decide) ?_
    refine aw_istore_n (npc := 49) (L' := [some (.ref 13), some (.int 1), some (.int 4), some (.int 0), some (.int 4)]) dX0_hasOf_48 rfl (by decide) rfl rfl ?_
    refine aw_iinc (npc := 52) (v := 1) (L' := [some (.ref 13), some (.int 1), some (.int 4), some (.int 1), some (.int 4)]) dX0_hasOf_49 rfl rfl (by decide) (by decide) rfl rfl ?_
    refine aw_goto (npc := 4) dX0_hasOf_52 (by decide) ?_
    refine aw_iload_n (npc := 5) rfl dX0_hasOf_4 rfl ?_
    refine aw_iconst (npc := 6) (v := 4) (by decide) dX0_hasOf_5 rfl ?_
    refine aw_icmp_ge (npc := 9) (tgt := 55) dX0_hasOf_6 rfl (by decide) (fun hc => absurd hc (by decide)) (fun _ => ?_)
    refine aw_iload_n (npc := 10) rfl dX0_hasOf_9 rfl ?_
    refine aw_if_ne (npc := 13) (tgt := 22) dX0_hasOf_10 rfl (by decide) (fun _ => ?_) (fun hc => absurd hc (by decide))
    refine aw_bipush (npc := 24) (v := 9) (by decide) dX0_hasOf_22 rfl ?_
    refine aw_aload_n (npc := 25) rfl dX0_hasOf_24 rfl ?_
    refine aw_get (npc := 28) dX0_hasOf_25 rfl kf_X0_9 f13 rfl ?_
    refine aw_iload_n (npc := 29) rfl dX0_hasOf_28 rfl ?_
    refine aw_iald (npc := 30) (x := 5) (j := 1) dX0_hasOf_29 rfl f14 ⟨by decide, by decide⟩ rfl ?_
    refine aw_isubV (npc := 31) (v := 4) dX0_hasOf_30 rfl (by decide) ?_
    refine aw_istore (npc := 33) (L' := [some (.ref 13), some (.int 1), some (.int 4), some (.int 1), some (.int 4)]) dX0_hasOf_31 rfl (by decide) rfl rfl ?_
    refine aw_iload_n (npc := 34) rfl dX0_hasOf_33 rfl ?_
    refine aw_aload_n (npc := 35) rfl dX0_hasOf_34 rfl ?_
    refine aw_get (npc := 38) dX0_hasOf_35 rfl kf_X0_15 f13 rfl ?_
    refine aw_iload_n (npc := 39) rfl dX0_hasOf_38 rfl ?_
    refine aw_iload_n (npc := 40) rfl dX0_hasOf_39 rfl ?_
    refine aw_callSN (npc := 43) (N := mX7_carePlace) (mc := 0) (ms := 0) (A := [.int 1, .int 1]) (S := [.ref 15, .int 4]) (L0 := [some (.int 1), some (.int 1)]) dX0_hasOf_40 rfl km_X7_carePlace kk_X0_87 rfl ⟨rfl, by decide⟩ rfl (Nat.le_of_ble_eq_true rfl) (Nat.zero_add _) (Nat.zero_add _) rfl ?_
    refine aw_iload_n (npc := 1) rfl dX7_carePlace_0 rfl ?_
    refine aw_iconst (npc := 2) (v := 4) (by decide) dX7_carePlace_1 rfl ?_
    refine aw_imulV (npc := 3) (v := 4) dX7_carePlace_2 rfl (by decide) ?_
    refine aw_iload_n (npc := 4) rfl dX7_carePlace_3 rfl ?_
    refine aw_iaddV (npc := 5) (v := 5) dX7_carePlace_4 rfl (by decide) ?_
    refine aw_iret rfl dX7_carePlace_5 ?_
    refine aw_re (S' := [.int 5, .ref 15, .int 4]) rfl ?_
    refine aw_iald (npc := 44) (x := 1) (j := 5) dX0_hasOf_43 rfl f15 ⟨by decide, by decide⟩ rfl ?_
    refine aw_iload (npc := 46) rfl dX0_hasOf_44 rfl ?_
    refine aw_imulV (npc := 47) (v := 4) dX0_hasOf_46 rfl (by decide) ?_
    refine aw_iaddV (npc := 48) (v := 8) dX0_hasOf_47 rfl (by decide) ?_
    refine aw_istore_n (npc := 49) (L' := [some (.ref 13), some (.int 1), some (.int 8), some (.int 1), some (.int 4)]) dX0_hasOf_48 rfl (by decide) rfl rfl ?_
    refine aw_iinc (npc := 52) (v := 2) (L' := [some (.ref 13), some (.int 1), some (.int 8), some (.int 2), some (.int 4)]) dX0_hasOf_49 rfl rfl (by decide) (by decide) rfl rfl ?_
    refine aw_goto (npc := 4) dX0_hasOf_52 (by decide) ?_
    refine aw_iload_n (npc := 5) rfl dX0_hasOf_4 rfl ?_
    refine aw_iconst (npc := 6) (v := 4) (by decide) dX0_hasOf_5 rfl ?_
    refine aw_icmp_ge (npc := 9) (tgt := 55) dX0_hasOf_6 rfl (by decide) (fun hc => absurd hc (by decide)) (fun _ => ?_)
    refine aw_iload_n (npc := 10) rfl dX0_hasOf_9 rfl ?_
    refine aw_if_ne (npc := 13) (tgt := 22) dX0_hasOf_10 rfl (by decide) (fun _ => ?_) (fun hc => absurd hc (by decide))
    refine aw_bipush (npc := 24) (v := 9) (by decide) dX0_hasOf_22 rfl ?_
    refine aw_aload_n (npc := 25) rfl dX0_hasOf_24 rfl ?_
    refine aw_get (npc := 28) dX0_hasOf_25 rfl kf_X0_9 f13 rfl ?_
    refine aw_iload_n (npc := 29) rfl dX0_hasOf_28 rfl ?_
    refine aw_iald (npc := 30) (x := 5) (j := 2) dX0_hasOf_29 rfl f14 ⟨by decide, by decide⟩ rfl ?_
    refine aw_isubV (npc := 31) (v := 4) dX0_hasOf_30 rfl (by decide) ?_
    refine aw_istore (npc := 33) (L' := [some (.ref 13), some (.int 1), some (.int 8), some (.int 2), some (.int 4)]) dX0_hasOf_31 rfl (by decide) rfl rfl ?_
    refine aw_iload_n (npc := 34) rfl dX0_hasOf_33 rfl ?_
    refine aw_aload_n (npc := 35) rfl dX0_hasOf_34 rfl ?_
    refine aw_get (npc := 38) dX0_hasOf_35 rfl kf_X0_15 f13 rfl ?_
    refine aw_iload_n (npc := 39) rfl dX0_hasOf_38 rfl ?_
    refine aw_iload_n (npc := 40) rfl dX0_hasOf_39 rfl ?_
    refine aw_callSN (npc := 43) (N := mX7_carePlace) (mc := 0) (ms := 0) (A := [.int 1, .int 2]) (S := [.ref 15, .int 8]) (L0 := [some (.int 1), some (.int 2)]) dX0_hasOf_40 rfl km_X7_carePlace kk_X0_87 rfl ⟨rfl, by decide⟩ rfl (Nat.le_of_ble_eq_true rfl) (Nat.zero_add _) (Nat.zero_add _) rfl ?_
    refine aw_iload_n (npc := 1) rfl dX7_carePlace_0 rfl ?_
    refine aw_iconst (npc := 2) (v := 4) (by decide) dX7_carePlace_1 rfl ?_
    refine aw_imulV (npc := 3) (v := 4) dX7_carePlace_2 rfl (by decide) ?_
    refine aw_iload_n (npc := 4) rfl dX7_carePlace_3 rfl ?_
    refine aw_iaddV (npc := 5) (v := 6) dX7_carePlace_4 rfl (by decide) ?_
    refine aw_iret rfl dX7_carePlace_5 ?_
    refine aw_re (S' := [.int 6, .ref 15, .int 8]) rfl ?_
    refine aw_iald (npc := 44) (x := 1) (j := 6) dX0_hasOf_43 rfl f15 ⟨by decide, by decide⟩ rfl ?_
    refine aw_iload (npc := 46) rfl dX0_hasOf_44 rfl ?_
    refine aw_imulV (npc := 47) (v := 4) dX0_hasOf_46 rfl (by decide) ?_
    refine aw_iaddV (npc := 48) (v := 12) dX0_hasOf_47 rfl (by decide) ?_
    refine aw_istore_n (npc := 49) (L' := [some (.ref 13), some (.int 1), some (.int 12), some (.int 2), some (.int 4)]) dX0_hasOf_48 rfl (by decide) rfl rfl ?_
    refine aw_iinc (npc := 52) (v := 3) (L' := [some (.ref 13), some (.int 1), some (.int 12), some (.int 3), some (.int 4)]) dX0_hasOf_49 rfl rfl (by decide) (by decide) rfl rfl ?_
    refine aw_goto (npc := 4) dX0_hasOf_52 (by decide) ?_
    refine aw_iload_n (npc := 5) rfl dX0_hasOf_4 rfl ?_
    refine aw_iconst (npc := 6) (v := 4) (by decide) dX0_hasOf_5 rfl ?_
    refine aw_icmp_ge (npc := 9) (tgt := 55) dX0_hasOf_6 rfl (by decide) (fun hc => absurd hc (by decide)) (fun _ => ?_)
    refine aw_iload_n (npc := 10) rfl dX0_hasOf_9 rfl ?_
    refine aw_if_ne (npc := 13) (tgt := 22) dX0_hasOf_10 rfl (by decide) (fun _ => ?_) (fun hc => absurd hc (by decide))
    refine aw_bipush (npc := 24) (v := 9) (by decide) dX0_hasOf_22 rfl ?_
    refine aw_aload_n (npc := 25) rfl dX0_hasOf_24 rfl ?_
    refine aw_get (npc := 28) dX0_hasOf_25 rfl kf_X0_9 f13 rfl ?_
    refine aw_iload_n (npc := 29) rfl dX0_hasOf_28 rfl ?_
    refine aw_iald (npc := 30) (x := 5) (j := 3) dX0_hasOf_29 rfl f14 ⟨by decide, by decide⟩ rfl ?_
    refine aw_isubV (npc := 31) (v := 4) dX0_hasOf_30 rfl (by decide) ?_
    refine aw_istore (npc := 33) (L' := [some (.ref 13), some (.int 1), some (.int 12), some (.int 3), some (.int 4)]) dX0_hasOf_31 rfl (by decide) rfl rfl ?_
    refine aw_iload_n (npc := 34) rfl dX0_hasOf_33 rfl ?_
    refine aw_aload_n (npc := 35) rfl dX0_hasOf_34 rfl ?_
    refine aw_get (npc := 38) dX0_hasOf_35 rfl kf_X0_15 f13 rfl ?_
    refine aw_iload_n (npc := 39) rfl dX0_hasOf_38 rfl ?_
    refine aw_iload_n (npc := 40) rfl dX0_hasOf_39 rfl ?_
    refine aw_callSN (npc := 43) (N := mX7_carePlace) (mc := 0) (ms := 0) (A := [.int 1, .int 3]) (S := [.ref 15, .int 12]) (L0 := [some (.int 1), some (.int 3)]) dX0_hasOf_40 rfl km_X7_carePlace kk_X0_87 rfl ⟨rfl, by decide⟩ rfl (Nat.le_of_ble_eq_true rfl) (Nat.zero_add _) (Nat.zero_add _) rfl ?_
    refine aw_iload_n (npc := 1) rfl dX7_carePlace_0 rfl ?_
    refine aw_iconst (npc := 2) (v := 4) (by decide) dX7_carePlace_1 rfl ?_
    refine aw_imulV (npc := 3) (v := 4) dX7_carePlace_2 rfl (by decide) ?_
    refine aw_iload_n (npc := 4) rfl dX7_carePlace_3 rfl ?_
    refine aw_iaddV (npc := 5) (v := 7) dX7_carePlace_4 rfl (by decide) ?_
    refine aw_iret rfl dX7_carePlace_5 ?_
    refine aw_re (S' := [.int 7, .ref 15, .int 12]) rfl ?_
    refine aw_iald (npc := 44) (x := 1) (j := 7) dX0_hasOf_43 rfl f15 ⟨by decide, by decide⟩ rfl ?_
    refine aw_iload (npc := 46) rfl dX0_hasOf_44 rfl ?_
    refine aw_imulV (npc := 47) (v := 4) dX0_hasOf_46 rfl (by decide) ?_
    refine aw_iaddV (npc := 48) (v := 16) dX0_hasOf_47 rfl (by decide) ?_
    refine aw_istore_n (npc := 49) (L' := [some (.ref 13), some (.int 1), some (.int 16), some (.int 3), some (.int 4)]) dX0_hasOf_48 rfl (by decide) rfl rfl ?_
    refine aw_iinc (npc := 52) (v := 4) (L' := [some (.ref 13), some (.int 1), some (.int 16), some (.int 4), some (.int 4)]) dX0_hasOf_49 rfl rfl (by decide) (by decide) rfl rfl ?_
    refine aw_goto (npc := 4) dX0_hasOf_52 (by decide) ?_
    refine aw_iload_n (npc := 5) rfl dX0_hasOf_4 rfl ?_
    refine aw_iconst (npc := 6) (v := 4) (by decide) dX0_hasOf_5 rfl ?_
    refine aw_icmp_ge (npc := 9) (tgt := 55) dX0_hasOf_6 rfl (by decide) (fun _ => ?_) (fun hc => absurd (by decide) hc)
    refine aw_iload_n (npc := 56) rfl dX0_hasOf_55 rfl ?_
    refine aw_iret rfl dX0_hasOf_56 ?_
    refine aw_re (S' := [.int 16]) rfl ?_
    refine aw_aload_n (npc := 20) rfl dX0_isPeace_19 rfl ?_
    refine aw_get (npc := 23) dX0_isPeace_20 rfl kf_X0_18 f13 rfl ?_
    refine aw_iconst (npc := 24) (v := 1) (by decide) dX0_isPeace_23 rfl ?_
    refine aw_iald (npc := 25) (x := 20) (j := 1) dX0_isPeace_24 rfl f16 ⟨by decide, by decide⟩ rfl ?_
    refine aw_icmp_lt (npc := 28) (tgt := 32) dX0_isPeace_25 rfl (by decide) (fun _ => ?_) (fun hc => absurd (by decide) hc)
    refine aw_iconst (npc := 33) (v := 0) (by decide) dX0_isPeace_32 rfl ?_
    refine aw_zret rfl rfl dX0_isPeace_33 ?_
    refine aw_re (S' := [.int 0]) rfl ?_
    refine aw_if_ne (npc := 18) (tgt := 39) dX0_runPosts_15 rfl (by decide) (fun hc => absurd (by decide) hc) (fun _ => ?_)
    refine aw_aload_n (npc := 19) rfl dX0_runPosts_18 rfl ?_
    refine aw_callV (npc := 22) (N := mX0_isDuel) (b := 13) (mc := 0) (ms := 0) (A := []) (S := []) (L0 := [some (.ref 13)]) dX0_runPosts_19 rfl km_X0_isDuel kk_X0_121 f13 ⟨by decide, rfl⟩ rfl ⟨rfl, by decide⟩ rfl (Nat.le_of_ble_eq_true rfl) (Nat.zero_add _) (Nat.zero_add _) rfl ?_
    refine aw_aload_n (npc := 1) rfl dX0_isDuel_0 rfl ?_
    refine aw_get (npc := 4) dX0_isDuel_1 rfl kf_X0_21 f13 rfl ?_
    refine aw_aload_n (npc := 5) rfl dX0_isDuel_4 rfl ?_
    refine aw_get (npc := 8) dX0_isDuel_5 rfl kf_X0_25 f13 rfl ?_
    refine aw_icmp_lt (npc := 11) (tgt := 15) dX0_isDuel_8 rfl (by decide) (fun hc2 => ?_) (fun hc2 => ?_)
    · refine aw_iconst (npc := 16) (v := 0) (by decide) dX0_isDuel_15 rfl ?_
      refine aw_zret rfl rfl dX0_isDuel_16 ?_
      refine aw_re (S' := [.int 0]) rfl ?_
      refine aw_if_ne (npc := 25) (tgt := 39) dX0_runPosts_22 rfl (by decide) (fun hc => absurd (by decide) hc) (fun _ => ?_)
      refine aw_iload_n (npc := 26) rfl dX0_runPosts_25 rfl ?_
      refine aw_aload_n (npc := 27) rfl dX0_runPosts_26 rfl ?_
      refine aw_iload_n (npc := 28) rfl dX0_runPosts_27 rfl ?_
      refine aw_callV (npc := 31) (N := mX0_writeLetters) (b := 13) (mc := 0) (ms := 0) (A := [.int wo]) (S := [.int 0]) (L0 := [some (.ref 13), some (.int wo), none, none, none, none]) dX0_runPosts_28 rfl km_X0_writeLetters kk_X0_124 f13 ⟨by decide, rfl⟩ rfl ⟨rfl, by decide⟩ rfl (Nat.le_of_ble_eq_true rfl) (Nat.zero_add _) (Nat.zero_add _) rfl ?_
      refine aw_aload_n (npc := 1) rfl dX0_writeLetters_0 rfl ?_
      refine aw_get (npc := 4) dX0_writeLetters_1 rfl kf_X0_70 f13 rfl ?_
      refine aw_iconst (npc := 5) (v := 0) (by decide) dX0_writeLetters_4 rfl ?_
      refine aw_callS (npc := 8) (N := mJ7_fill_53178) (mc := 0) (ms := 0) (A := [.ref 24, .int 0]) (S := []) (L0 := [some (.ref 24), some (.int 0), none, none]) dX0_writeLetters_5 rfl km_J7_fill_53178 kk_X0_127 rfl ⟨rfl, by decide⟩ rfl (Nat.le_of_ble_eq_true rfl) (Nat.zero_add _) (Nat.zero_add _) rfl ?_
      refine aw_iconst (npc := 1) (v := 0) (by decide) dJ7_fill_53178_0 rfl ?_
      refine aw_istore_n (npc := 2) (L' := [some (.ref 24), some (.int 0), some (.int 0), none]) dJ7_fill_53178_1 rfl (by decide) rfl rfl ?_
      refine aw_aload_n (npc := 3) rfl dJ7_fill_53178_2 rfl ?_
      refine aw_alen (npc := 4) (v := 4) dJ7_fill_53178_3 rfl f24 rfl ?_
      refine aw_istore_n (npc := 5) (L' := [some (.ref 24), some (.int 0), some (.int 0), some (.int 4)]) dJ7_fill_53178_4 rfl (by decide) rfl rfl ?_
      refine aw_iload_n (npc := 6) rfl dJ7_fill_53178_5 rfl ?_
      refine aw_iload_n (npc := 7) rfl dJ7_fill_53178_6 rfl ?_
      refine aw_icmp_ge (npc := 10) (tgt := 20) dJ7_fill_53178_7 rfl (by decide) (fun hc => absurd hc (by decide)) (fun _ => ?_)
      refine aw_aload_n (npc := 11) rfl dJ7_fill_53178_10 rfl ?_
      refine aw_iload_n (npc := 12) rfl dJ7_fill_53178_11 rfl ?_
      refine aw_iload_n (npc := 13) rfl dJ7_fill_53178_12 rfl ?_
      refine aw_iast (npc := 14) (j := 0) dJ7_fill_53178_13 rfl f24 ⟨by decide, by decide⟩ (Nat.le_of_ble_eq_true rfl) (show _ = am_up _ 24 (.inl (0, [0, 0, 0, 0])) from rfl) ?_
      refine aw_iinc (npc := 17) (v := 1) (L' := [some (.ref 24), some (.int 0), some (.int 1), some (.int 4)]) dJ7_fill_53178_14 rfl rfl (by decide) (by decide) rfl rfl ?_
      refine aw_goto (npc := 5) dJ7_fill_53178_17 (by decide) ?_
      refine aw_iload_n (npc := 6) rfl dJ7_fill_53178_5 rfl ?_
      refine aw_iload_n (npc := 7) rfl dJ7_fill_53178_6 rfl ?_
      refine aw_icmp_ge (npc := 10) (tgt := 20) dJ7_fill_53178_7 rfl (by decide) (fun hc => absurd hc (by decide)) (fun _ => ?_)
      refine aw_aload_n (npc := 11) rfl dJ7_fill_53178_10 rfl ?_
      refine aw_iload_n (npc := 12) rfl dJ7_fill_53178_11 rfl ?_
      refine aw_iload_n (npc := 13) rfl dJ7_fill_53178_12 rfl ?_
      refine aw_iast (npc := 14) (j := 1) dJ7_fill_53178_13 rfl am_eq ⟨by decide, by decide⟩ (Nat.le_of_ble_eq_true rfl) (show _ = am_up _ 24 (.inl (0, [0, 0, 0, 0])) from am_uu) ?_
      refine aw_iinc (npc := 17) (v := 2) (L' := [some (.ref 24), some (.int 0), some (.int 2), some (.int 4)]) dJ7_fill_53178_14 rfl rfl (by decide) (by decide) rfl rfl ?_
      refine aw_goto (npc := 5) dJ7_fill_53178_17 (by decide) ?_
      refine aw_iload_n (npc := 6) rfl dJ7_fill_53178_5 rfl ?_
      refine aw_iload_n (npc := 7) rfl dJ7_fill_53178_6 rfl ?_
      refine aw_icmp_ge (npc := 10) (tgt := 20) dJ7_fill_53178_7 rfl (by decide) (fun hc => absurd hc (by decide)) (fun _ => ?_)
      refine aw_aload_n (npc := 11) rfl dJ7_fill_53178_10 rfl ?_
      refine aw_iload_n (npc := 12) rfl dJ7_fill_53178_11 rfl ?_
      refine aw_iload_n (npc := 13) rfl dJ7_fill_53178_12 rfl ?_
      refine aw_iast (npc := 14) (j := 2) dJ7_fill_53178_13 rfl am_eq ⟨by decide, by decide⟩ (Nat.le_of_ble_eq_true rfl) (show _ = am_up _ 24 (.inl (0, [0, 0, 0, 0])) from am_uu) ?_
      refine aw_iinc (npc := 17) (v := 3) (L' := [some (.ref 24), some (.int 0), some (.int 3), some (.int 4)]) dJ7_fill_53178_14 rfl rfl (by decide) (by decide) rfl rfl ?_
      refine aw_goto (npc := 5) dJ7_fill_53178_17 (by decide) ?_
      refine aw_iload_n (npc := 6) rfl dJ7_fill_53178_5 rfl ?_
      refine aw_iload_n (npc := 7) rfl dJ7_fill_53178_6 rfl ?_
      refine aw_icmp_ge (npc := 10) (tgt := 20) dJ7_fill_53178_7 rfl (by decide) (fun hc => absurd hc (by decide)) (fun _ => ?_)
      refine aw_aload_n (npc := 11) rfl dJ7_fill_53178_10 rfl ?_
      refine aw_iload_n (npc := 12) rfl dJ7_fill_53178_11 rfl ?_
      refine aw_iload_n (npc := 13) rfl dJ7_fill_53178_12 rfl ?_
      refine aw_iast (npc := 14) (j := 3) dJ7_fill_53178_13 rfl am_eq ⟨by decide, by decide⟩ (Nat.le_of_ble_eq_true rfl) (show _ = am_up _ 24 (.inl (0, [0, 0, 0, 0])) from am_uu) ?_
      refine aw_iinc (npc := 17) (v := 4) (L' := [some (.ref 24), some (.int 0), some (.int 4), some (.int 4)]) dJ7_fill_53178_14 rfl rfl (by decide) (by decide) rfl rfl ?_
      refine aw_goto (npc := 5) dJ7_fill_53178_17 (by decide) ?_
      refine aw_iload_n (npc := 6) rfl dJ7_fill_53178_5 rfl ?_
      refine aw_iload_n (npc := 7) rfl dJ7_fill_53178_6 rfl ?_
      refine aw_icmp_ge (npc := 10) (tgt := 20) dJ7_fill_53178_7 rfl (by decide) (fun _ => ?_) (fun hc => absurd (by decide) hc)
      refine aw_vret rfl dJ7_fill_53178_20 ?_
      refine aw_iconst (npc := 9) (v := 0) (by decide) dX0_writeLetters_8 rfl ?_
      refine aw_istore_n (npc := 10) (L' := [some (.ref 13), some (.int wo), some (.int 0), none, none, none]) dX0_writeLetters_9 rfl (by decide) rfl rfl ?_
      refine aw_iconst (npc := 11) (v := 0) (by decide) dX0_writeLetters_10 rfl ?_
      refine aw_istore_n (npc := 12) (L' := [some (.ref 13), some (.int wo), some (.int 0), some (.int 0), none, none]) dX0_writeLetters_11 rfl (by decide) rfl rfl ?_
      refine aw_iconst (npc := 13) (v := 0) (by decide) dX0_writeLetters_12 rfl ?_
      refine aw_istore (npc := 15) (L' := [some (.ref 13), some (.int wo), some (.int 0), some (.int 0), some (.int 0), none]) dX0_writeLetters_13 rfl (by decide) rfl rfl ?_
      refine aw_iload (npc := 17) rfl dX0_writeLetters_15 rfl ?_
      refine aw_aload_n (npc := 18) rfl dX0_writeLetters_17 rfl ?_
      refine aw_get (npc := 21) dX0_writeLetters_18 rfl kf_X0_40 (am_ne (by decide) f13) rfl ?_
      refine aw_icmp_ge (npc := 24) (tgt := 152) dX0_writeLetters_21 rfl (by decide) (fun _ => ?_) (fun hc => absurd (by decide) hc)
      refine aw_iconst (npc := 153) (v := 0) (by decide) dX0_writeLetters_152 rfl ?_
      refine aw_istore (npc := 155) (L' := [some (.ref 13), some (.int wo), some (.int 0), some (.int 0), some (.int 0), none]) dX0_writeLetters_153 rfl (by decide) rfl rfl ?_
      refine aw_iload (npc := 157) rfl dX0_writeLetters_155 rfl ?_
      refine aw_iconst (npc := 158) (v := 4) (by decide) dX0_writeLetters_157 rfl ?_
      refine aw_icmp_ge (npc := 161) (tgt := 194) dX0_writeLetters_158 rfl (by decide) (fun hc => absurd hc (by decide)) (fun _ => ?_)
      refine aw_aload_n (npc := 162) rfl dX0_writeLetters_161 rfl ?_
      refine aw_get (npc := 165) dX0_writeLetters_162 rfl kf_X0_9 (am_ne (by decide) f13) rfl ?_
      refine aw_iload (npc := 167) rfl dX0_writeLetters_165 rfl ?_
      refine aw_aload_n (npc := 168) rfl dX0_writeLetters_167 rfl ?_
      refine aw_get (npc := 171) dX0_writeLetters_168 rfl kf_X0_9 (am_ne (by decide) f13) rfl ?_
      refine aw_iload (npc := 173) rfl dX0_writeLetters_171 rfl ?_
      refine aw_iald (npc := 174) (x := 5) (j := 0) dX0_writeLetters_173 rfl (am_ne (by decide) f14) ⟨by decide, by decide⟩ rfl ?_
      refine aw_aload_n (npc := 175) rfl dX0_writeLetters_174 rfl ?_
      refine aw_get (npc := 178) dX0_writeLetters_175 rfl kf_X0_70 (am_ne (by decide) f13) rfl ?_
      refine aw_iload (npc := 180) rfl dX0_writeLetters_178 rfl ?_
      refine aw_iald (npc := 181) (x := 0) (j := 0) dX0_writeLetters_180 rfl am_eq ⟨by decide, by decide⟩ rfl ?_
      refine aw_iaddV (npc := 182) (v := 5) dX0_writeLetters_181 rfl (by decide) ?_
      refine aw_bipush (npc := 184) (v := 9) (by decide) dX0_writeLetters_182 rfl ?_
      refine aw_callSN (npc := 187) (N := mX7_heldWithin) (mc := 0) (ms := 0) (A := [.int 5, .int 9]) (S := [.int 0, .ref 14]) (L0 := [some (.int 5), some (.int 9)]) dX0_writeLetters_184 rfl km_X7_heldWithin kk_X0_114 rfl ⟨rfl, by decide⟩ rfl (Nat.le_of_ble_eq_true rfl) (Nat.zero_add _) (Nat.zero_add _) rfl ?_
      refine aw_iload_n (npc := 1) rfl dX7_heldWithin_0 rfl ?_
      refine aw_if_ge (npc := 4) (tgt := 8) dX7_heldWithin_1 rfl (by decide) (fun _ => ?_) (fun hc => absurd (by decide) hc)
      refine aw_iload_n (npc := 9) rfl dX7_heldWithin_8 rfl ?_
      refine aw_iload_n (npc := 10) rfl dX7_heldWithin_9 rfl ?_
      refine aw_mmin (npc := 13) dX7_heldWithin_10 rfl kmm_X7_148 kmx_min (Nat.le_of_ble_eq_true rfl) ?_
      refine aw_top (y := 5) (by decide) ?_
      refine aw_iret rfl dX7_heldWithin_13 ?_
      refine aw_re (S' := [.int 5, .int 0, .ref 14]) rfl ?_
      refine aw_iast (npc := 188) (j := 0) dX0_writeLetters_187 rfl (am_ne (by decide) f14) ⟨by decide, by decide⟩ (Nat.le_of_ble_eq_true rfl) (show _ = am_up _ 14 (.inl (0, [5, 5, 5, 5])) from rfl) ?_
      refine aw_iinc (npc := 191) (v := 1) (L' := [some (.ref 13), some (.int wo), some (.int 0), some (.int 0), some (.int 1), none]) dX0_writeLetters_188 rfl rfl (by decide) (by decide) rfl rfl ?_
      refine aw_goto (npc := 155) dX0_writeLetters_191 (by decide) ?_
      refine aw_iload (npc := 157) rfl dX0_writeLetters_155 rfl ?_
      refine aw_iconst (npc := 158) (v := 4) (by decide) dX0_writeLetters_157 rfl ?_
      refine aw_icmp_ge (npc := 161) (tgt := 194) dX0_writeLetters_158 rfl (by decide) (fun hc => absurd hc (by decide)) (fun _ => ?_)
      refine aw_aload_n (npc := 162) rfl dX0_writeLetters_161 rfl ?_
      refine aw_get (npc := 165) dX0_writeLetters_162 rfl kf_X0_9 (am_ne (by decide) (am_ne (by decide) f13)) rfl ?_
      refine aw_iload (npc := 167) rfl dX0_writeLetters_165 rfl ?_
      refine aw_aload_n (npc := 168) rfl dX0_writeLetters_167 rfl ?_
      refine aw_get (npc := 171) dX0_writeLetters_168 rfl kf_X0_9 (am_ne (by decide) (am_ne (by decide) f13)) rfl ?_
      refine aw_iload (npc := 173) rfl dX0_writeLetters_171 rfl ?_
      refine aw_iald (npc := 174) (x := 5) (j := 1) dX0_writeLetters_173 rfl am_eq ⟨by decide, by decide⟩ rfl ?_
      refine aw_aload_n (npc := 175) rfl dX0_writeLetters_174 rfl ?_
      refine aw_get (npc := 178) dX0_writeLetters_175 rfl kf_X0_70 (am_ne (by decide) (am_ne (by decide) f13)) rfl ?_
      refine aw_iload (npc := 180) rfl dX0_writeLetters_178 rfl ?_
      refine aw_iald (npc := 181) (x := 0) (j := 1) dX0_writeLetters_180 rfl (am_ne (by decide) am_eq) ⟨by decide, by decide⟩ rfl ?_
      refine aw_iaddV (npc := 182) (v := 5) dX0_writeLetters_181 rfl (by decide) ?_
      refine aw_bipush (npc := 184) (v := 9) (by decide) dX0_writeLetters_182 rfl ?_
      refine aw_callSN (npc := 187) (N := mX7_heldWithin) (mc := 0) (ms := 0) (A := [.int 5, .int 9]) (S := [.int 1, .ref 14]) (L0 := [some (.int 5), some (.int 9)]) dX0_writeLetters_184 rfl km_X7_heldWithin kk_X0_114 rfl ⟨rfl, by decide⟩ rfl (Nat.le_of_ble_eq_true rfl) (Nat.zero_add _) (Nat.zero_add _) rfl ?_
      refine aw_iload_n (npc := 1) rfl dX7_heldWithin_0 rfl ?_
      refine aw_if_ge (npc := 4) (tgt := 8) dX7_heldWithin_1 rfl (by decide) (fun _ => ?_) (fun hc => absurd (by decide) hc)
      refine aw_iload_n (npc := 9) rfl dX7_heldWithin_8 rfl ?_
      refine aw_iload_n (npc := 10) rfl dX7_heldWithin_9 rfl ?_
      refine aw_mmin (npc := 13) dX7_heldWithin_10 rfl kmm_X7_148 kmx_min (Nat.le_of_ble_eq_true rfl) ?_
      refine aw_top (y := 5) (by decide) ?_
      refine aw_iret rfl dX7_heldWithin_13 ?_
      refine aw_re (S' := [.int 5, .int 1, .ref 14]) rfl ?_
      refine aw_iast (npc := 188) (j := 1) dX0_writeLetters_187 rfl am_eq ⟨by decide, by decide⟩ (Nat.le_of_ble_eq_true rfl) (show _ = am_up _ 14 (.inl (0, [5, 5, 5, 5])) from am_uu) ?_
      refine aw_iinc (npc := 191) (v := 2) (L' := [some (.ref 13), some (.int wo), some (.int 0), some (.int 0), some (.int 2), none]) dX0_writeLetters_188 rfl rfl (by decide) (by decide) rfl rfl ?_
      refine aw_goto (npc := 155) dX0_writeLetters_191 (by decide) ?_
      refine aw_iload (npc := 157) rfl dX0_writeLetters_155 rfl ?_
      refine aw_iconst (npc := 158) (v := 4) (by decide) dX0_writeLetters_157 rfl ?_
      refine aw_icmp_ge (npc := 161) (tgt := 194) dX0_writeLetters_158 rfl (by decide) (fun hc => absurd hc (by decide)) (fun _ => ?_)
      refine aw_aload_n (npc := 162) rfl dX0_writeLetters_161 rfl ?_
      refine aw_get (npc := 165) dX0_writeLetters_162 rfl kf_X0_9 (am_ne (by decide) (am_ne (by decide) f13)) rfl ?_
      refine aw_iload (npc := 167) rfl dX0_writeLetters_165 rfl ?_
      refine aw_aload_n (npc := 168) rfl dX0_writeLetters_167 rfl ?_
      refine aw_get (npc := 171) dX0_writeLetters_168 rfl kf_X0_9 (am_ne (by decide) (am_ne (by decide) f13)) rfl ?_
      refine aw_iload (npc := 173) rfl dX0_writeLetters_171 rfl ?_
      refine aw_iald (npc := 174) (x := 5) (j := 2) dX0_writeLetters_173 rfl am_eq ⟨by decide, by decide⟩ rfl ?_
      refine aw_aload_n (npc := 175) rfl dX0_writeLetters_174 rfl ?_
      refine aw_get (npc := 178) dX0_writeLetters_175 rfl kf_X0_70 (am_ne (by decide) (am_ne (by decide) f13)) rfl ?_
      refine aw_iload (npc := 180) rfl dX0_writeLetters_178 rfl ?_
      refine aw_iald (npc := 181) (x := 0) (j := 2) dX0_writeLetters_180 rfl (am_ne (by decide) am_eq) ⟨by decide, by decide⟩ rfl ?_
      refine aw_iaddV (npc := 182) (v := 5) dX0_writeLetters_181 rfl (by decide) ?_
      refine aw_bipush (npc := 184) (v := 9) (by decide) dX0_writeLetters_182 rfl ?_
      refine aw_callSN (npc := 187) (N := mX7_heldWithin) (mc := 0) (ms := 0) (A := [.int 5, .int 9]) (S := [.int 2, .ref 14]) (L0 := [some (.int 5), some (.int 9)]) dX0_writeLetters_184 rfl km_X7_heldWithin kk_X0_114 rfl ⟨rfl, by decide⟩ rfl (Nat.le_of_ble_eq_true rfl) (Nat.zero_add _) (Nat.zero_add _) rfl ?_
      refine aw_iload_n (npc := 1) rfl dX7_heldWithin_0 rfl ?_
      refine aw_if_ge (npc := 4) (tgt := 8) dX7_heldWithin_1 rfl (by decide) (fun _ => ?_) (fun hc => absurd (by decide) hc)
      refine aw_iload_n (npc := 9) rfl dX7_heldWithin_8 rfl ?_
      refine aw_iload_n (npc := 10) rfl dX7_heldWithin_9 rfl ?_
      refine aw_mmin (npc := 13) dX7_heldWithin_10 rfl kmm_X7_148 kmx_min (Nat.le_of_ble_eq_true rfl) ?_
      refine aw_top (y := 5) (by decide) ?_
      refine aw_iret rfl dX7_heldWithin_13 ?_
      refine aw_re (S' := [.int 5, .int 2, .ref 14]) rfl ?_
      refine aw_iast (npc := 188) (j := 2) dX0_writeLetters_187 rfl am_eq ⟨by decide, by decide⟩ (Nat.le_of_ble_eq_true rfl) (show _ = am_up _ 14 (.inl (0, [5, 5, 5, 5])) from am_uu) ?_
      refine aw_iinc (npc := 191) (v := 3) (L' := [some (.ref 13), some (.int wo), some (.int 0), some (.int 0), some (.int 3), none]) dX0_writeLetters_188 rfl rfl (by decide) (by decide) rfl rfl ?_
      refine aw_goto (npc := 155) dX0_writeLetters_191 (by decide) ?_
      refine aw_iload (npc := 157) rfl dX0_writeLetters_155 rfl ?_
      refine aw_iconst (npc := 158) (v := 4) (by decide) dX0_writeLetters_157 rfl ?_
      refine aw_icmp_ge (npc := 161) (tgt := 194) dX0_writeLetters_158 rfl (by decide) (fun hc => absurd hc (by decide)) (fun _ => ?_)
      refine aw_aload_n (npc := 162) rfl dX0_writeLetters_161 rfl ?_
      refine aw_get (npc := 165) dX0_writeLetters_162 rfl kf_X0_9 (am_ne (by decide) (am_ne (by decide) f13)) rfl ?_
      refine aw_iload (npc := 167) rfl dX0_writeLetters_165 rfl ?_
      refine aw_aload_n (npc := 168) rfl dX0_writeLetters_167 rfl ?_
      refine aw_get (npc := 171) dX0_writeLetters_168 rfl kf_X0_9 (am_ne (by decide) (am_ne (by decide) f13)) rfl ?_
      refine aw_iload (npc := 173) rfl dX0_writeLetters_171 rfl ?_
      refine aw_iald (npc := 174) (x := 5) (j := 3) dX0_writeLetters_173 rfl am_eq ⟨by decide, by decide⟩ rfl ?_
      refine aw_aload_n (npc := 175) rfl dX0_writeLetters_174 rfl ?_
      refine aw_get (npc := 178) dX0_writeLetters_175 rfl kf_X0_70 (am_ne (by decide) (am_ne (by decide) f13)) rfl ?_
      refine aw_iload (npc := 180) rfl dX0_writeLetters_178 rfl ?_
      refine aw_iald (npc := 181) (x := 0) (j := 3) dX0_writeLetters_180 rfl (am_ne (by decide) am_eq) ⟨by decide, by decide⟩ rfl ?_
      refine aw_iaddV (npc := 182) (v := 5) dX0_writeLetters_181 rfl (by decide) ?_
      refine aw_bipush (npc := 184) (v := 9) (by decide) dX0_writeLetters_182 rfl ?_
      refine aw_callSN (npc := 187) (N := mX7_heldWithin) (mc := 0) (ms := 0) (A := [.int 5, .int 9]) (S := [.int 3, .ref 14]) (L0 := [some (.int 5), some (.int 9)]) dX0_writeLetters_184 rfl km_X7_heldWithin kk_X0_114 rfl ⟨rfl, by decide⟩ rfl (Nat.le_of_ble_eq_true rfl) (Nat.zero_add _) (Nat.zero_add _) rfl ?_
      refine aw_iload_n (npc := 1) rfl dX7_heldWithin_0 rfl ?_
      refine aw_if_ge (npc := 4) (tgt := 8) dX7_heldWithin_1 rfl (by decide) (fun _ => ?_) (fun hc => absurd (by decide) hc)
      refine aw_iload_n (npc := 9) rfl dX7_heldWithin_8 rfl ?_
      refine aw_iload_n (npc := 10) rfl dX7_heldWithin_9 rfl ?_
      refine aw_mmin (npc := 13) dX7_heldWithin_10 rfl kmm_X7_148 kmx_min (Nat.le_of_ble_eq_true rfl) ?_
      refine aw_top (y := 5) (by decide) ?_
      refine aw_iret rfl dX7_heldWithin_13 ?_
      refine aw_re (S' := [.int 5, .int 3, .ref 14]) rfl ?_
      refine aw_iast (npc := 188) (j := 3) dX0_writeLetters_187 rfl am_eq ⟨by decide, by decide⟩ (Nat.le_of_ble_eq_true rfl) (show _ = am_up _ 14 (.inl (0, [5, 5, 5, 5])) from am_uu) ?_
      refine aw_iinc (npc := 191) (v := 4) (L' := [some (.ref 13), some (.int wo), some (.int 0), some (.int 0), some (.int 4), none]) dX0_writeLetters_188 rfl rfl (by decide) (by decide) rfl rfl ?_
      refine aw_goto (npc := 155) dX0_writeLetters_191 (by decide) ?_
      refine aw_iload (npc := 157) rfl dX0_writeLetters_155 rfl ?_
      refine aw_iconst (npc := 158) (v := 4) (by decide) dX0_writeLetters_157 rfl ?_
      refine aw_icmp_ge (npc := 161) (tgt := 194) dX0_writeLetters_158 rfl (by decide) (fun _ => ?_) (fun hc => absurd (by decide) hc)
      refine aw_aload_n (npc := 195) rfl dX0_writeLetters_194 rfl ?_
      refine aw_aload_n (npc := 196) rfl dX0_writeLetters_195 rfl ?_
      refine aw_get (npc := 199) dX0_writeLetters_196 rfl kf_X0_21 (am_ne (by decide) (am_ne (by decide) f13)) rfl ?_
      refine aw_iload_n (npc := 200) rfl dX0_writeLetters_199 rfl ?_
      refine aw_iaddV (npc := 201) (v := hv) dX0_writeLetters_200 rfl (Int32.add_zero _) ?_
      refine aw_bipush (npc := 203) (v := 99) (by decide) dX0_writeLetters_201 rfl ?_
      refine aw_callSN (npc := 206) (N := mX7_heldWithin) (mc := 0) (ms := 0) (A := [.int hv, .int 99]) (S := [.ref 13]) (L0 := [some (.int hv), some (.int 99)]) dX0_writeLetters_203 rfl km_X7_heldWithin kk_X0_114 rfl ⟨rfl, by decide⟩ rfl (Nat.le_of_ble_eq_true rfl) (Nat.zero_add _) (Nat.zero_add _) rfl ?_
      refine aw_iload_n (npc := 1) rfl dX7_heldWithin_0 rfl ?_
      refine aw_if_ge (npc := 4) (tgt := 8) dX7_heldWithin_1 rfl (by decide) (fun _ => ?_) (fun hc => absurd (wi_ge0 hh) hc)
      refine aw_iload_n (npc := 9) rfl dX7_heldWithin_8 rfl ?_
      refine aw_iload_n (npc := 10) rfl dX7_heldWithin_9 rfl ?_
      refine aw_mmin (npc := 13) dX7_heldWithin_10 rfl kmm_X7_148 kmx_min (Nat.le_of_ble_eq_true rfl) ?_
      refine aw_top (y := hv) (if_neg hh.2) ?_
      refine aw_iret rfl dX7_heldWithin_13 ?_
      refine aw_re (S' := [.int hv, .ref 13]) rfl ?_
      refine aw_put (npc := 209) dX0_writeLetters_206 rfl kf_X0_21 (am_ne (by decide) (am_ne (by decide) f13)) (Nat.le_of_ble_eq_true rfl) (am_ok_int _) rfl ?_
      refine aw_iload_n (npc := 210) rfl dX0_writeLetters_209 rfl ?_
      refine aw_iret rfl dX0_writeLetters_210 ?_
      refine aw_re (S' := [.int 0, .int 0]) rfl ?_
      refine aw_iaddV (npc := 32) (v := 0) dX0_runPosts_31 rfl (by decide) ?_
      refine aw_istore_n (npc := 33) (L' := [some (.ref 13), some (.int (nI N)), some (.int wo), some (.int 0), some (.int (nI j))]) dX0_runPosts_32 rfl (by decide) rfl rfl ?_
      refine aw_iinc (npc := 36) (v := nI (j + 1)) (L' := [some (.ref 13), some (.int (nI N)), some (.int wo), some (.int 0), some (.int (nI (j + 1)))]) dX0_runPosts_33 rfl rfl (nI_1 j) (by decide) rfl rfl ?_
      refine aw_goto (npc := 5) dX0_runPosts_36 (by decide) ?_
      exact ih (j + 1) (by omega) _ ⟨am_eq, (am_ne (by decide) am_eq), (am_ne (by decide) (am_ne (by decide) (am_ne (by decide) f15))), (am_ne (by decide) (am_ne (by decide) (am_ne (by decide) f16))), (am_ne (by decide) (am_ne (by decide) (am_ne (by decide) f17))), (am_ne (by decide) (am_ne (by decide) (am_ne (by decide) f18))), (am_ne (by decide) (am_ne (by decide) (am_ne (by decide) f19))), (am_ne (by decide) (am_ne (by decide) (am_ne (by decide) f20))), (am_ne (by decide) (am_ne (by decide) (am_ne (by decide) f21))), (am_ne (by decide) (am_ne (by decide) (am_ne (by decide) f22))), (am_ne (by decide) (am_ne (by decide) (am_ne (by decide) f23))), (am_ne (by decide) (am_ne (by decide) am_eq))⟩ (fun i h9 F9 fz => hx i h9 F9 (am_fbT fz (am_fbU (by decide) (am_fbU (by decide) (am_fbU (by decide) am_fb0)))))
    · refine aw_iconst (npc := 12) (v := 1) (by decide) dX0_isDuel_11 rfl ?_
      refine aw_goto (npc := 16) dX0_isDuel_12 (by decide) ?_
      refine aw_zret rfl rfl dX0_isDuel_16 ?_
      refine aw_re (S' := [.int 1]) rfl ?_
      refine aw_if_ne (npc := 25) (tgt := 39) dX0_runPosts_22 rfl (by decide) (fun _ => ?_) (fun hc => absurd hc (by decide))
      exact hx _ _ ⟨f13, f14, f15, f16, f17, f18, f19, f20, f21, f22, f23, f24⟩ am_fb0
set_option maxHeartbeats 40000000 in
set_option maxRecDepth 100000 in
theorem p_run_13 {X : List Int32} {d rc rs nn : Nat} {Q : am_Q} {hv pt wo : Int32} {N : Nat} {h : am_H} (hh : wi hv 0 99) (hN : N < 1000) (F : fq13 hv pt h) (hq : ∀ h9, fq13 hv (pt + nI N) h9 → am_fb 13 25 h9 h → Q (some (.int 0)) nn h9) : AW X mX0_runPosts (d + 9) rc rs 0 [some (.ref 13), some (.int (nI N)), some (.int wo), none, none] [] nn h Q := by
  obtain ⟨f13, f14, f15, f16, f17, f18, f19, f20, f21, f22, f23, f24⟩ := id F
  refine aw_iconst (npc := 1) (v := 0) (by decide) dX0_runPosts_0 rfl ?_
  refine aw_istore_n (npc := 2) (L' := [some (.ref 13), some (.int (nI N)), some (.int wo), some (.int 0), none]) dX0_runPosts_1 rfl (by decide) rfl rfl ?_
  refine aw_iconst (npc := 3) (v := 0) (by decide) dX0_runPosts_2 rfl ?_
  refine aw_istore (npc := 5) (L' := [some (.ref 13), some (.int (nI N)), some (.int wo), some (.int 0), some (.int 0)]) dX0_runPosts_3 rfl (by decide) rfl rfl ?_
  refine aw_locs (L' := [some (.ref 13), some (.int (nI N)), some (.int wo), some (.int 0), some (.int (nI 0))]) (by rw [nI_0]) ?_
  refine p_runL_13 hh N hN N 0 (by omega) h F (fun i h9 F9 fz => ?_)
  obtain ⟨f13, f14, f15, f16, f17, f18, f19, f20, f21, f22, f23, f24⟩ := F9
  refine aw_aload_n (npc := 40) rfl dX0_runPosts_39 rfl ?_
  refine aw_dup (npc := 41) rfl dX0_runPosts_40 rfl ?_
  refine aw_get (npc := 44) dX0_runPosts_41 rfl kf_X0_34 f13 rfl ?_
  refine aw_iload_n (npc := 45) rfl dX0_runPosts_44 rfl ?_
  refine aw_iadd (npc := 46) dX0_runPosts_45 rfl ?_
  refine aw_put (npc := 49) dX0_runPosts_46 rfl kf_X0_34 f13 (Nat.le_of_ble_eq_true rfl) (am_ok_int _) rfl ?_
  refine aw_iload_n (npc := 50) rfl dX0_runPosts_49 rfl ?_
  refine aw_iret rfl dX0_runPosts_50 ?_
  exact hq _ ⟨am_eq, (am_ne (by decide) f14), (am_ne (by decide) f15), (am_ne (by decide) f16), (am_ne (by decide) f17), (am_ne (by decide) f18), (am_ne (by decide) f19), (am_ne (by decide) f20), (am_ne (by decide) f21), (am_ne (by decide) f22), (am_ne (by decide) f23), (am_ne (by decide) f24)⟩ (am_fbU (by decide) fz)
set_option maxHeartbeats 40000000 in
set_option maxRecDepth 100000 in
theorem p_peace_13 {X : List Int32} {d rc rs nn : Nat} {Q : am_Q} {hv pt : Int32} {h : am_H} (F : fq13 hv pt h) (hq : Q (some (.int 0)) nn h) : AW X mX0_isPeace (d + 4) rc rs 0 [some (.ref 13)] [] nn h Q := by
  obtain ⟨f13, f14, f15, f16, f17, f18, f19, f20, f21, f22, f23, f24⟩ := F
  refine aw_aload_n (npc := 1) rfl dX0_isPeace_0 rfl ?_
  refine aw_iconst (npc := 2) (v := 0) (by decide) dX0_isPeace_1 rfl ?_
  refine aw_callV (npc := 5) (N := mX0_hasOf) (b := 13) (mc := 0) (ms := 0) (A := [.int 0]) (S := []) (L0 := [some (.ref 13), some (.int 0), none, none, none]) dX0_isPeace_2 rfl km_X0_hasOf kk_X0_91 f13 ⟨by decide, rfl⟩ rfl ⟨rfl, by decide⟩ rfl (Nat.le_of_ble_eq_true rfl) (Nat.zero_add _) (Nat.zero_add _) rfl ?_
  refine aw_iconst (npc := 1) (v := 0) (by decide) dX0_hasOf_0 rfl ?_
  refine aw_istore_n (npc := 2) (L' := [some (.ref 13), some (.int 0), some (.int 0), none, none]) dX0_hasOf_1 rfl (by decide) rfl rfl ?_
  refine aw_iconst (npc := 3) (v := 0) (by decide) dX0_hasOf_2 rfl ?_
  refine aw_istore_n (npc := 4) (L' := [some (.ref 13), some (.int 0), some (.int 0), some (.int 0), none]) dX0_hasOf_3 rfl (by decide) rfl rfl ?_
  refine aw_iload_n (npc := 5) rfl dX0_hasOf_4 rfl ?_
  refine aw_iconst (npc := 6) (v := 4) (by decide) dX0_hasOf_5 rfl ?_
  refine aw_icmp_ge (npc := 9) (tgt := 55) dX0_hasOf_6 rfl (by decide) (fun hc => absurd hc (by decide)) (fun _ => ?_)
  refine aw_iload_n (npc := 10) rfl dX0_hasOf_9 rfl ?_
  refine aw_if_ne (npc := 13) (tgt := 22) dX0_hasOf_10 rfl (by decide) (fun hc => absurd (by decide) hc) (fun _ => ?_)
  refine aw_aload_n (npc := 14) rfl dX0_hasOf_13 rfl ?_
  refine aw_get (npc := 17) dX0_hasOf_14 rfl kf_X0_9 f13 rfl ?_
  refine aw_iload_n (npc := 18) rfl dX0_hasOf_17 rfl ?_
  refine aw_iald (npc := 19) (x := 5) (j := 0) dX0_hasOf_18 rfl f14 ⟨by decide, by decide⟩ rfl ?_
  refine aw_goto (npc := 31) dX0_hasOf_19 (by decide) ?_
  refine aw_istore (npc := 33) (L' := [some (.ref 13), some (.int 0), some (.int 0), some (.int 0), some (.int 5)]) dX0_hasOf_31 rfl (by decide) rfl rfl ?_
  refine aw_iload_n (npc := 34) rfl dX0_hasOf_33 rfl ?_
  refine aw_aload_n (npc := 35) rfl dX0_hasOf_34 rfl ?_
  refine aw_get (npc := 38) dX0_hasOf_35 rfl kf_X0_15 f13 rfl ?_
  refine aw_iload_n (npc := 39) rfl dX0_hasOf_38 rfl ?_
  refine aw_iload_n (npc := 40) rfl dX0_hasOf_39 rfl ?_
  refine aw_callSN (npc := 43) (N := mX7_carePlace) (mc := 0) (ms := 0) (A := [.int 0, .int 0]) (S := [.ref 15, .int 0]) (L0 := [some (.int 0), some (.int 0)]) dX0_hasOf_40 rfl km_X7_carePlace kk_X0_87 rfl ⟨rfl, by decide⟩ rfl (Nat.le_of_ble_eq_true rfl) (Nat.zero_add _) (Nat.zero_add _) rfl ?_
  refine aw_iload_n (npc := 1) rfl dX7_carePlace_0 rfl ?_
  refine aw_iconst (npc := 2) (v := 4) (by decide) dX7_carePlace_1 rfl ?_
  refine aw_imulV (npc := 3) (v := 0) dX7_carePlace_2 rfl (by decide) ?_
  refine aw_iload_n (npc := 4) rfl dX7_carePlace_3 rfl ?_
  refine aw_iaddV (npc := 5) (v := 0) dX7_carePlace_4 rfl (by decide) ?_
  refine aw_iret rfl dX7_carePlace_5 ?_
  refine aw_re (S' := [.int 0, .ref 15, .int 0]) rfl ?_
  refine aw_iald (npc := 44) (x := 1) (j := 0) dX0_hasOf_43 rfl f15 ⟨by decide, by decide⟩ rfl ?_
  refine aw_iload (npc := 46) rfl dX0_hasOf_44 rfl ?_
  refine aw_imulV (npc := 47) (v := 5) dX0_hasOf_46 rfl (by decide) ?_
  refine aw_iaddV (npc := 48) (v := 5) dX0_hasOf_47 rfl (by decide) ?_
  refine aw_istore_n (npc := 49) (L' := [some (.ref 13), some (.int 0), some (.int 5), some (.int 0), some (.int 5)]) dX0_hasOf_48 rfl (by decide) rfl rfl ?_
  refine aw_iinc (npc := 52) (v := 1) (L' := [some (.ref 13), some (.int 0), some (.int 5), some (.int 1), some (.int 5)]) dX0_hasOf_49 rfl rfl (by decide) (by decide) rfl rfl ?_
  refine aw_goto (npc := 4) dX0_hasOf_52 (by decide) ?_
  refine aw_iload_n (npc := 5) rfl dX0_hasOf_4 rfl ?_
  refine aw_iconst (npc := 6) (v := 4) (by decide) dX0_hasOf_5 rfl ?_
  refine aw_icmp_ge (npc := 9) (tgt := 55) dX0_hasOf_6 rfl (by decide) (fun hc => absurd hc (by decide)) (fun _ => ?_)
  refine aw_iload_n (npc := 10) rfl dX0_hasOf_9 rfl ?_
  refine aw_if_ne (npc := 13) (tgt := 22) dX0_hasOf_10 rfl (by decide) (fun hc => absurd (by decide) hc) (fun _ => ?_)
  refine aw_aload_n (npc := 14) rfl dX0_hasOf_13 rfl ?_
  refine aw_get (npc := 17) dX0_hasOf_14 rfl kf_X0_9 f13 rfl ?_
  refine aw_iload_n (npc := 18) rfl dX0_hasOf_17 rfl ?_
  refine aw_iald (npc := 19) (x := 5) (j := 1) dX0_hasOf_18 rfl f14 ⟨by decide, by decide⟩ rfl ?_
  refine aw_goto (npc := 31) dX0_hasOf_19 (by decide) ?_
  refine aw_istore (npc := 33) (L' := [some (.ref 13), some (.int 0), some (.int 5), some (.int 1), some (.int 5)]) dX0_hasOf_31 rfl (by decide) rfl rfl ?_
  refine aw_iload_n (npc := 34) rfl dX0_hasOf_33 rfl ?_
  refine aw_aload_n (npc := 35) rfl dX0_hasOf_34 rfl ?_
  refine aw_get (npc := 38) dX0_hasOf_35 rfl kf_X0_15 f13 rfl ?_
  refine aw_iload_n (npc := 39) rfl dX0_hasOf_38 rfl ?_
  refine aw_iload_n (npc := 40) rfl dX0_hasOf_39 rfl ?_
  refine aw_callSN (npc := 43) (N := mX7_carePlace) (mc := 0) (ms := 0) (A := [.int 0, .int 1]) (S := [.ref 15, .int 5]) (L0 := [some (.int 0), some (.int 1)]) dX0_hasOf_40 rfl km_X7_carePlace kk_X0_87 rfl ⟨rfl, by decide⟩ rfl (Nat.le_of_ble_eq_true rfl) (Nat.zero_add _) (Nat.zero_add _) rfl ?_
  refine aw_iload_n (npc := 1) rfl dX7_carePlace_0 rfl ?_
  refine aw_iconst (npc := 2) (v := 4) (by decide) dX7_carePlace_1 rfl ?_
  refine aw_imulV (npc := 3) (v := 0) dX7_carePlace_2 rfl (by decide) ?_
  refine aw_iload_n (npc := 4) rfl dX7_carePlace_3 rfl ?_
  refine aw_iaddV (npc := 5) (v := 1) dX7_carePlace_4 rfl (by decide) ?_
  refine aw_iret rfl dX7_carePlace_5 ?_
  refine aw_re (S' := [.int 1, .ref 15, .int 5]) rfl ?_
  refine aw_iald (npc := 44) (x := 1) (j := 1) dX0_hasOf_43 rfl f15 ⟨by decide, by decide⟩ rfl ?_
  refine aw_iload (npc := 46) rfl dX0_hasOf_44 rfl ?_
  refine aw_imulV (npc := 47) (v := 5) dX0_hasOf_46 rfl (by decide) ?_
  refine aw_iaddV (npc := 48) (v := 10) dX0_hasOf_47 rfl (by decide) ?_
  refine aw_istore_n (npc := 49) (L' := [some (.ref 13), some (.int 0), some (.int 10), some (.int 1), some (.int 5)]) dX0_hasOf_48 rfl (by decide) rfl rfl ?_
  refine aw_iinc (npc := 52) (v := 2) (L' := [some (.ref 13), some (.int 0), some (.int 10), some (.int 2), some (.int 5)]) dX0_hasOf_49 rfl rfl (by decide) (by decide) rfl rfl ?_
  refine aw_goto (npc := 4) dX0_hasOf_52 (by decide) ?_
  refine aw_iload_n (npc := 5) rfl dX0_hasOf_4 rfl ?_
  refine aw_iconst (npc := 6) (v := 4) (by decide) dX0_hasOf_5 rfl ?_
  refine aw_icmp_ge (npc := 9) (tgt := 55) dX0_hasOf_6 rfl (by decide) (fun hc => absurd hc (by decide)) (fun _ => ?_)
  refine aw_iload_n (npc := 10) rfl dX0_hasOf_9 rfl ?_
  refine aw_if_ne (npc := 13) (tgt := 22) dX0_hasOf_10 rfl (by decide) (fun hc => absurd (by decide) hc) (fun _ => ?_)
  refine aw_aload_n (npc := 14) rfl dX0_hasOf_13 rfl ?_
  refine aw_get (npc := 17) dX0_hasOf_14 rfl kf_X0_9 f13 rfl ?_
  refine aw_iload_n (npc := 18) rfl dX0_hasOf_17 rfl ?_
  refine aw_iald (npc := 19) (x := 5) (j := 2) dX0_hasOf_18 rfl f14 ⟨by decide, by decide⟩ rfl ?_
  refine aw_goto (npc := 31) dX0_hasOf_19 (by decide) ?_
  refine aw_istore (npc := 33) (L' := [some (.ref 13), some (.int 0), some (.int 10), some (.int 2), some (.int 5)]) dX0_hasOf_31 rfl (by decide) rfl rfl ?_
  refine aw_iload_n (npc := 34) rfl dX0_hasOf_33 rfl ?_
  refine aw_aload_n (npc := 35) rfl dX0_hasOf_34 rfl ?_
  refine aw_get (npc := 38) dX0_hasOf_35 rfl kf_X0_15 f13 rfl ?_
  refine aw_iload_n (npc := 39) rfl dX0_hasOf_38 rfl ?_
  refine aw_iload_n (npc := 40) rfl dX0_hasOf_39 rfl ?_
  refine aw_callSN (npc := 43) (N := mX7_carePlace) (mc := 0) (ms := 0) (A := [.int 0, .int 2]) (S := [.ref 15, .int 10]) (L0 := [some (.int 0), some (.int 2)]) dX0_hasOf_40 rfl km_X7_carePlace kk_X0_87 rfl ⟨rfl, by decide⟩ rfl (Nat.le_of_ble_eq_true rfl) (Nat.zero_add _) (Nat.zero_add _) rfl ?_
  refine aw_iload_n (npc := 1) rfl dX7_carePlace_0 rfl ?_
  refine aw_iconst (npc := 2) (v := 4) (by decide) dX7_carePlace_1 rfl ?_
  refine aw_imulV (npc := 3) (v := 0) dX7_carePlace_2 rfl (by decide) ?_
  refine aw_iload_n (npc := 4) rfl dX7_carePlace_3 rfl ?_
  refine aw_iaddV (npc := 5) (v := 2) dX7_carePlace_4 rfl (by decide) ?_
  refine aw_iret rfl dX7_carePlace_5 ?_
  refine aw_re (S' := [.int 2, .ref 15, .int 10]) rfl ?_
  refine aw_iald (npc := 44) (x := 1) (j := 2) dX0_hasOf_43 rfl f15 ⟨by decide, by decide⟩ rfl ?_
  refine aw_iload (npc := 46) rfl dX0_hasOf_44 rfl ?_
  refine aw_imulV (npc := 47) (v := 5) dX0_hasOf_46 rfl (by decide) ?_
  refine aw_iaddV (npc := 48) (v := 15) dX0_hasOf_47 rfl (by decide) ?_
  refine aw_istore_n (npc := 49) (L' := [some (.ref 13), some (.int 0), some (.int 15), some (.int 2), some (.int 5)]) dX0_hasOf_48 rfl (by decide) rfl rfl ?_
  refine aw_iinc (npc := 52) (v := 3) (L' := [some (.ref 13), some (.int 0), some (.int 15), some (.int 3), some (.int 5)]) dX0_hasOf_49 rfl rfl (by decide) (by decide) rfl rfl ?_
  refine aw_goto (npc := 4) dX0_hasOf_52 (by decide) ?_
  refine aw_iload_n (npc := 5) rfl dX0_hasOf_4 rfl ?_
  refine aw_iconst (npc := 6) (v := 4) (by decide) dX0_hasOf_5 rfl ?_
  refine aw_icmp_ge (npc := 9) (tgt := 55) dX0_hasOf_6 rfl (by decide) (fun hc => absurd hc (by decide)) (fun _ => ?_)
  refine aw_iload_n (npc := 10) rfl dX0_hasOf_9 rfl ?_
  refine aw_if_ne (npc := 13) (tgt := 22) dX0_hasOf_10 rfl (by decide) (fun hc => absurd (by decide) hc) (fun _ => ?_)
  refine aw_aload_n (npc := 14) rfl dX0_hasOf_13 rfl ?_
  refine aw_get (npc := 17) dX0_hasOf_14 rfl kf_X0_9 f13 rfl ?_
  refine aw_iload_n (npc := 18) rfl dX0_hasOf_17 rfl ?_
  refine aw_iald (npc := 19) (x := 5) (j := 3) dX0_hasOf_18 rfl f14 ⟨by decide, by decide⟩ rfl ?_
  refine aw_goto (npc := 31) dX0_hasOf_19 (by decide) ?_
  refine aw_istore (npc := 33) (L' := [some (.ref 13), some (.int 0), some (.int 15), some (.int 3), some (.int 5)]) dX0_hasOf_31 rfl (by decide) rfl rfl ?_
  refine aw_iload_n (npc := 34) rfl dX0_hasOf_33 rfl ?_
  refine aw_aload_n (npc := 35) rfl dX0_hasOf_34 rfl ?_
  refine aw_get (npc := 38) dX0_hasOf_35 rfl kf_X0_15 f13 rfl ?_
  refine aw_iload_n (npc := 39) rfl dX0_hasOf_38 rfl ?_
  refine aw_iload_n (npc := 40) rfl dX0_hasOf_39 rfl ?_
  refine aw_callSN (npc := 43) (N := mX7_carePlace) (mc := 0) (ms := 0) (A := [.int 0, .int 3]) (S := [.ref 15, .int 15]) (L0 := [some (.int 0), some (.int 3)]) dX0_hasOf_40 rfl km_X7_carePlace kk_X0_87 rfl ⟨rfl, by decide⟩ rfl (Nat.le_of_ble_eq_true rfl) (Nat.zero_add _) (Nat.zero_add _) rfl ?_
  refine aw_iload_n (npc := 1) rfl dX7_carePlace_0 rfl ?_
  refine aw_iconst (npc := 2) (v := 4) (by decide) dX7_carePlace_1 rfl ?_
  refine aw_imulV (npc := 3) (v := 0) dX7_carePlace_2 rfl (by decide) ?_
  refine aw_iload_n (npc := 4) rfl dX7_carePlace_3 rfl ?_
  refine aw_iaddV (npc := 5) (v := 3) dX7_carePlace_4 rfl (by decide) ?_
  refine aw_iret rfl dX7_carePlace_5 ?_
  refine aw_re (S' := [.int 3, .ref 15, .int 15]) rfl ?_
  refine aw_iald (npc := 44) (x := 1) (j := 3) dX0_hasOf_43 rfl f15 ⟨by decide, by decide⟩ rfl ?_
  refine aw_iload (npc := 46) rfl dX0_hasOf_44 rfl ?_
  refine aw_imulV (npc := 47) (v := 5) dX0_hasOf_46 rfl (by decide) ?_
  refine aw_iaddV (npc := 48) (v := 20) dX0_hasOf_47 rfl (by decide) ?_
  refine aw_istore_n (npc := 49) (L' := [some (.ref 13), some (.int 0), some (.int 20), some (.int 3), some (.int 5)]) dX0_hasOf_48 rfl (by decide) rfl rfl ?_
  refine aw_iinc (npc := 52) (v := 4) (L' := [some (.ref 13), some (.int 0), some (.int 20), some (.int 4), some (.int 5)]) dX0_hasOf_49 rfl rfl (by decide) (by decide) rfl rfl ?_
  refine aw_goto (npc := 4) dX0_hasOf_52 (by decide) ?_
  refine aw_iload_n (npc := 5) rfl dX0_hasOf_4 rfl ?_
  refine aw_iconst (npc := 6) (v := 4) (by decide) dX0_hasOf_5 rfl ?_
  refine aw_icmp_ge (npc := 9) (tgt := 55) dX0_hasOf_6 rfl (by decide) (fun _ => ?_) (fun hc => absurd (by decide) hc)
  refine aw_iload_n (npc := 56) rfl dX0_hasOf_55 rfl ?_
  refine aw_iret rfl dX0_hasOf_56 ?_
  refine aw_re (S' := [.int 20]) rfl ?_
  refine aw_aload_n (npc := 6) rfl dX0_isPeace_5 rfl ?_
  refine aw_get (npc := 9) dX0_isPeace_6 rfl kf_X0_18 f13 rfl ?_
  refine aw_iconst (npc := 10) (v := 0) (by decide) dX0_isPeace_9 rfl ?_
  refine aw_iald (npc := 11) (x := 20) (j := 0) dX0_isPeace_10 rfl f16 ⟨by decide, by decide⟩ rfl ?_
  refine aw_icmp_lt (npc := 14) (tgt := 32) dX0_isPeace_11 rfl (by decide) (fun hc => absurd hc (by decide)) (fun _ => ?_)
  refine aw_aload_n (npc := 15) rfl dX0_isPeace_14 rfl ?_
  refine aw_iconst (npc := 16) (v := 1) (by decide) dX0_isPeace_15 rfl ?_
  refine aw_callV (npc := 19) (N := mX0_hasOf) (b := 13) (mc := 0) (ms := 0) (A := [.int 1]) (S := []) (L0 := [some (.ref 13), some (.int 1), none, none, none]) dX0_isPeace_16 rfl km_X0_hasOf kk_X0_91 f13 ⟨by decide, rfl⟩ rfl ⟨rfl, by decide⟩ rfl (Nat.le_of_ble_eq_true rfl) (Nat.zero_add _) (Nat.zero_add _) rfl ?_
  refine aw_iconst (npc := 1) (v := 0) (by decide) dX0_hasOf_0 rfl ?_
  refine aw_istore_n (npc := 2) (L' := [some (.ref 13), some (.int 1), some (.int 0), none, none]) dX0_hasOf_1 rfl (by decide) rfl rfl ?_
  refine aw_iconst (npc := 3) (v := 0) (by decide) dX0_hasOf_2 rfl ?_
  refine aw_istore_n (npc := 4) (L' := [some (.ref 13), some (.int 1), some (.int 0), some (.int 0), none]) dX0_hasOf_3 rfl (by decide) rfl rfl ?_
  refine aw_iload_n (npc := 5) rfl dX0_hasOf_4 rfl ?_
  refine aw_iconst (npc := 6) (v := 4) (by decide) dX0_hasOf_5 rfl ?_
  refine aw_icmp_ge (npc := 9) (tgt := 55) dX0_hasOf_6 rfl (by decide) (fun hc => absurd hc (by decide)) (fun _ => ?_)
  refine aw_iload_n (npc := 10) rfl dX0_hasOf_9 rfl ?_
  refine aw_if_ne (npc := 13) (tgt := 22) dX0_hasOf_10 rfl (by decide) (fun _ => ?_) (fun hc => absurd hc (by decide))
  refine aw_bipush (npc := 24) (v := 9) (by decide) dX0_hasOf_22 rfl ?_
  refine aw_aload_n (npc := 25) rfl dX0_hasOf_24 rfl ?_
  refine aw_get (npc := 28) dX0_hasOf_25 rfl kf_X0_9 f13 rfl ?_
  refine aw_iload_n (npc := 29) rfl dX0_hasOf_28 rfl ?_
  refine aw_iald (npc := 30) (x := 5) (j := 0) dX0_hasOf_29 rfl f14 ⟨by decide, by decide⟩ rfl ?_
  refine aw_isubV (npc := 31) (v := 4) dX0_hasOf_30 rfl (by decide) ?_
  refine aw_istore (npc := 33) (L' := [some (.ref 13), some (.int 1), some (.int 0), some (.int 0), some (.int 4)]) dX0_hasOf_31 rfl (by decide) rfl rfl ?_
  refine aw_iload_n (npc := 34) rfl dX0_hasOf_33 rfl ?_
  refine aw_aload_n (npc := 35) rfl dX0_hasOf_34 rfl ?_
  refine aw_get (npc := 38) dX0_hasOf_35 rfl kf_X0_15 f13 rfl ?_
  refine aw_iload_n (npc := 39) rfl dX0_hasOf_38 rfl ?_
  refine aw_iload_n (npc := 40) rfl dX0_hasOf_39 rfl ?_
  refine aw_callSN (npc := 43) (N := mX7_carePlace) (mc := 0) (ms := 0) (A := [.int 1, .int 0]) (S := [.ref 15, .int 0]) (L0 := [some (.int 1), some (.int 0)]) dX0_hasOf_40 rfl km_X7_carePlace kk_X0_87 rfl ⟨rfl, by decide⟩ rfl (Nat.le_of_ble_eq_true rfl) (Nat.zero_add _) (Nat.zero_add _) rfl ?_
  refine aw_iload_n (npc := 1) rfl dX7_carePlace_0 rfl ?_
  refine aw_iconst (npc := 2) (v := 4) (by decide) dX7_carePlace_1 rfl ?_
  refine aw_imulV (npc := 3) (v := 4) dX7_carePlace_2 rfl (by decide) ?_
  refine aw_iload_n (npc := 4) rfl dX7_carePlace_3 rfl ?_
  refine aw_iaddV (npc := 5) (v := 4) dX7_carePlace_4 rfl (by decide) ?_
  refine aw_iret rfl dX7_carePlace_5 ?_
  refine aw_re (S' := [.int 4, .ref 15, .int 0]) rfl ?_
  refine aw_iald (npc := 44) (x := 1) (j := 4) dX0_hasOf_43 rfl f15 ⟨by decide, by decide⟩ rfl ?_
  refine aw_iload (npc := 46) rfl dX0_hasOf_44 rfl ?_
  refine aw_imulV (npc := 47) (v := 4) dX0_hasOf_46 rfl (by decide) ?_
  refine aw_iaddV (npc := 48) (v := 4) dX0_hasOf_47 rfl (by decide) ?_
  refine aw_istore_n (npc := 49) (L' := [some (.ref 13), some (.int 1), some (.int 4), some (.int 0), some (.int 4)]) dX0_hasOf_48 rfl (by decide) rfl rfl ?_
  refine aw_iinc (npc := 52) (v := 1) (L' := [some (.ref 13), some (.int 1), some (.int 4), some (.int 1), some (.int 4)]) dX0_hasOf_49 rfl rfl (by decide) (by decide) rfl rfl ?_
  refine aw_goto (npc := 4) dX0_hasOf_52 (by decide) ?_
  refine aw_iload_n (npc := 5) rfl dX0_hasOf_4 rfl ?_
  refine aw_iconst (npc := 6) (v := 4) (by decide) dX0_hasOf_5 rfl ?_
  refine aw_icmp_ge (npc := 9) (tgt := 55) dX0_hasOf_6 rfl (by decide) (fun hc => absurd hc (by decide)) (fun _ => ?_)
  refine aw_iload_n (npc := 10) rfl dX0_hasOf_9 rfl ?_
  refine aw_if_ne (npc := 13) (tgt := 22) dX0_hasOf_10 rfl (by decide) (fun _ => ?_) (fun hc => absurd hc (by decide))
  refine aw_bipush (npc := 24) (v := 9) (by decide) dX0_hasOf_22 rfl ?_
  refine aw_aload_n (npc := 25) rfl dX0_hasOf_24 rfl ?_
  refine aw_get (npc := 28) dX0_hasOf_25 rfl kf_X0_9 f13 rfl ?_
  refine aw_iload_n (npc := 29) rfl dX0_hasOf_28 rfl ?_
  refine aw_iald (npc := 30) (x := 5) (j := 1) dX0_hasOf_29 rfl f14 ⟨by decide, by decide⟩ rfl ?_
  refine aw_isubV (npc := 31) (v := 4) dX0_hasOf_30 rfl (by decide) ?_
  refine aw_istore (npc := 33) (L' := [some (.ref 13), some (.int 1), some (.int 4), some (.int 1), some (.int 4)]) dX0_hasOf_31 rfl (by decide) rfl rfl ?_
  refine aw_iload_n (npc := 34) rfl dX0_hasOf_33 rfl ?_
  refine aw_aload_n (npc := 35) rfl dX0_hasOf_34 rfl ?_
  refine aw_get (npc := 38) dX0_hasOf_35 rfl kf_X0_15 f13 rfl ?_
  refine aw_iload_n (npc := 39) rfl dX0_hasOf_38 rfl ?_
  refine aw_iload_n (npc := 40) rfl dX0_hasOf_39 rfl ?_
  refine aw_callSN (npc := 43) (N := mX7_carePlace) (mc := 0) (ms := 0) (A := [.int 1, .int 1]) (S := [.ref 15, .int 4]) (L0 := [some (.int 1), some (.int 1)]) dX0_hasOf_40 rfl km_X7_carePlace kk_X0_87 rfl ⟨rfl, by decide⟩ rfl (Nat.le_of_ble_eq_true rfl) (Nat.zero_add _) (Nat.zero_add _) rfl ?_
  refine aw_iload_n (npc := 1) rfl dX7_carePlace_0 rfl ?_
  refine aw_iconst (npc := 2) (v := 4) (by decide) dX7_carePlace_1 rfl ?_
  refine aw_imulV (npc := 3) (v := 4) dX7_carePlace_2 rfl (by decide) ?_
  refine aw_iload_n (npc := 4) rfl dX7_carePlace_3 rfl ?_
  refine aw_iaddV (npc := 5) (v := 5) dX7_carePlace_4 rfl (by decide) ?_
  refine aw_iret rfl dX7_carePlace_5 ?_
  refine aw_re (S' := [.int 5, .ref 15, .int 4]) rfl ?_
  refine aw_iald (npc := 44) (x := 1) (j := 5) dX0_hasOf_43 rfl f15 ⟨by decide, by decide⟩ rfl ?_
  refine aw_iload (npc := 46) rfl dX0_hasOf_44 rfl ?_
  refine aw_imulV (npc := 47) (v := 4) dX0_hasOf_46 rfl (by decide) ?_
  refine aw_iaddV (npc := 48) (v := 8) dX0_hasOf_47 rfl (by decide) ?_
  refine aw_istore_n (npc := 49) (L' := [some (.ref 13), some (.int 1), some (.int 8), some (.int 1), some (.int 4)]) dX0_hasOf_48 rfl (by decide) rfl rfl ?_
  refine aw_iinc (npc := 52) (v := 2) (L' := [some (.ref 13), some (.int 1), some (.int 8), some (.int 2), some (.int 4)]) dX0_hasOf_49 rfl rfl (by decide) (by decide) rfl rfl ?_
  refine aw_goto (npc := 4) dX0_hasOf_52 (by decide) ?_
  refine aw_iload_n (npc := 5) rfl dX0_hasOf_4 rfl ?_
  refine aw_iconst (npc := 6) (v := 4) (by decide) dX0_hasOf_5 rfl ?_
  refine aw_icmp_ge (npc := 9) (tgt := 55) dX0_hasOf_6 rfl (by decide) (fun hc => absurd hc (by decide)) (fun _ => ?_)
  refine aw_iload_n (npc := 10) rfl dX0_hasOf_9 rfl ?_
  refine aw_if_ne (npc := 13) (tgt := 22) dX0_hasOf_10 rfl (by decide) (fun _ => ?_) (fun hc => absurd hc (by decide))
  refine aw_bipush (npc := 24) (v := 9) (by decide) dX0_hasOf_22 rfl ?_
  refine aw_aload_n (npc := 25) rfl dX0_hasOf_24 rfl ?_
  refine aw_get (npc := 28) dX0_hasOf_25 rfl kf_X0_9 f13 rfl ?_
  refine aw_iload_n (npc := 29) rfl dX0_hasOf_28 rfl ?_
  refine aw_iald (npc := 30) (x := 5) (j := 2) dX0_hasOf_29 rfl f14 ⟨by decide, by decide⟩ rfl ?_
  refine aw_isubV (npc := 31) (v := 4) dX0_hasOf_30 rfl (by decide) ?_
  refine aw_istore (npc := 33) (L' := [some (.ref 13), some (.int 1), some (.int 8), some (.int 2), some (.int 4)]) dX0_hasOf_31 rfl (by decide) rfl rfl ?_
  refine aw_iload_n (npc := 34) rfl dX0_hasOf_33 rfl ?_
  refine aw_aload_n (npc := 35) rfl dX0_hasOf_34 rfl ?_
  refine aw_get (npc := 38) dX0_hasOf_35 rfl kf_X0_15 f13 rfl ?_
  refine aw_iload_n (npc := 39) rfl dX0_hasOf_38 rfl ?_
  refine aw_iload_n (npc := 40) rfl dX0_hasOf_39 rfl ?_
  refine aw_callSN (npc := 43) (N := mX7_carePlace) (mc := 0) (ms := 0) (A := [.int 1, .int 2]) (S := [.ref 15, .int 8]) (L0 := [some (.int 1), some (.int 2)]) dX0_hasOf_40 rfl km_X7_carePlace kk_X0_87 rfl ⟨rfl, by decide⟩ rfl (Nat.le_of_ble_eq_true rfl) (Nat.zero_add _) (Nat.zero_add _) rfl ?_
  refine aw_iload_n (npc := 1) rfl dX7_carePlace_0 rfl ?_
  refine aw_iconst (npc := 2) (v := 4) (by decide) dX7_carePlace_1 rfl ?_
  refine aw_imulV (npc := 3) (v := 4) dX7_carePlace_2 rfl (by decide) ?_
  refine aw_iload_n (npc := 4) rfl dX7_carePlace_3 rfl ?_
  refine aw_iaddV (npc := 5) (v := 6) dX7_carePlace_4 rfl (by decide) ?_
  refine aw_iret rfl dX7_carePlace_5 ?_
  refine aw_re (S' := [.int 6, .ref 15, .int 8]) rfl ?_
  refine aw_iald (npc := 44) (x := 1) (j := 6) dX0_hasOf_43 rfl f15 ⟨by decide, by decide⟩ rfl ?_
  refine aw_iload (npc := 46) rfl dX0_hasOf_44 rfl ?_
  refine aw_imulV (npc := 47) (v := 4) dX0_hasOf_46 rfl (by decide) ?_
  refine aw_iaddV (npc := 48) (v := 12) dX0_hasOf_47 rfl (by decide) ?_
  refine aw_istore_n (npc := 49) (L' := [some (.ref 13), some (.int 1), some (.int 12), some (.int 2), some (.int 4)]) dX0_hasOf_48 rfl (by decide) rfl rfl ?_
  refine aw_iinc (npc := 52) (v := 3) (L' := [some (.ref 13), some (.int 1), some (.int 12), some (.int 3), some (.int 4)]) dX0_hasOf_49 rfl rfl (by decide) (by decide) rfl rfl ?_
  refine aw_goto (npc := 4) dX0_hasOf_52 (by decide) ?_
  refine aw_iload_n (npc := 5) rfl dX0_hasOf_4 rfl ?_
  refine aw_iconst (npc := 6) (v := 4) (by decide) dX0_hasOf_5 rfl ?_
  refine aw_icmp_ge (npc := 9) (tgt := 55) dX0_hasOf_6 rfl (by decide) (fun hc => absurd hc (by decide)) (fun _ => ?_)
  refine aw_iload_n (npc := 10) rfl dX0_hasOf_9 rfl ?_
  refine aw_if_ne (npc := 13) (tgt := 22) dX0_hasOf_10 rfl (by decide) (fun _ => ?_) (fun hc => absurd hc (by decide))
  refine aw_bipush (npc := 24) (v := 9) (by decide) dX0_hasOf_22 rfl ?_
  refine aw_aload_n (npc := 25) rfl dX0_hasOf_24 rfl ?_
  refine aw_get (npc := 28) dX0_hasOf_25 rfl kf_X0_9 f13 rfl ?_
  refine aw_iload_n (npc := 29) rfl dX0_hasOf_28 rfl ?_
  refine aw_iald (npc := 30) (x := 5) (j := 3) dX0_hasOf_29 rfl f14 ⟨by decide, by decide⟩ rfl ?_
  refine aw_isubV (npc := 31) (v := 4) dX0_hasOf_30 rfl (by decide) ?_
  refine aw_istore (npc := 33) (L' := [some (.ref 13), some (.int 1), some (.int 12), some (.int 3), some (.int 4)]) dX0_hasOf_31 rfl (by decide) rfl rfl ?_
  refine aw_iload_n (npc := 34) rfl dX0_hasOf_33 rfl ?_
  refine aw_aload_n (npc := 35) rfl dX0_hasOf_34 rfl ?_
  refine aw_get (npc := 38) dX0_hasOf_35 rfl kf_X0_15 f13 rfl ?_
  refine aw_iload_n (npc := 39) rfl dX0_hasOf_38 rfl ?_
  refine aw_iload_n (npc := 40) rfl dX0_hasOf_39 rfl ?_
  refine aw_callSN (npc := 43) (N := mX7_carePlace) (mc := 0) (ms := 0) (A := [.int 1, .int 3]) (S := [.ref 15, .int 12]) (L0 := [some (.int 1), some (.int 3)]) dX0_hasOf_40 rfl km_X7_carePlace kk_X0_87 rfl ⟨rfl, by decide⟩ rfl (Nat.le_of_ble_eq_true rfl) (Nat.zero_add _) (Nat.zero_add _) rfl ?_
  refine aw_iload_n (npc := 1) rfl dX7_carePlace_0 rfl ?_
  refine aw_iconst (npc := 2) (v := 4) (by decide) dX7_carePlace_1 rfl ?_
  refine aw_imulV (npc := 3) (v := 4) dX7_carePlace_2 rfl (by decide) ?_
  refine aw_iload_n (npc := 4) rfl dX7_carePlace_3 rfl ?_
  refine aw_iaddV (npc := 5) (v := 7) dX7_carePlace_4 rfl (by decide) ?_
  refine aw_iret rfl dX7_carePlace_5 ?_
  refine aw_re (S' := [.int 7, .ref 15, .int 12]) rfl ?_
  refine aw_iald (npc := 44) (x := 1) (j := 7) dX0_hasOf_43 rfl f15 ⟨by decide, by decide⟩ rfl ?_
  refine aw_iload (npc := 46) rfl dX0_hasOf_44 rfl ?_
  refine aw_imulV (npc := 47) (v := 4) dX0_hasOf_46 rfl (by decide) ?_
  refine aw_iaddV (npc := 48) (v := 16) dX0_hasOf_47 rfl (by decide) ?_
  refine aw_istore_n (npc := 49) (L' := [some (.ref 13), some (.int 1), some (.int 16), some (.int 3), some (.int 4)]) dX0_hasOf_48 rfl (by decide) rfl rfl ?_
  refine aw_iinc (npc := 52) (v := 4) (L' := [some (.ref 13), some (.int 1), some (.int 16), some (.int 4), some (.int 4)]) dX0_hasOf_49 rfl rfl (by decide) (by decide) rfl rfl ?_
  refine aw_goto (npc := 4) dX0_hasOf_52 (by decide) ?_
  refine aw_iload_n (npc := 5) rfl dX0_hasOf_4 rfl ?_
  refine aw_iconst (npc := 6) (v := 4) (by decide) dX0_hasOf_5 rfl ?_
  refine aw_icmp_ge (npc := 9) (tgt := 55) dX0_hasOf_6 rfl (by decide) (fun _ => ?_) (fun hc => absurd (by decide) hc)
  refine aw_iload_n (npc := 56) rfl dX0_hasOf_55 rfl ?_
  refine aw_iret rfl dX0_hasOf_56 ?_
  refine aw_re (S' := [.int 16]) rfl ?_
  refine aw_aload_n (npc := 20) rfl dX0_isPeace_19 rfl ?_
  refine aw_get (npc := 23) dX0_isPeace_20 rfl kf_X0_18 f13 rfl ?_
  refine aw_iconst (npc := 24) (v := 1) (by decide) dX0_isPeace_23 rfl ?_
  refine aw_iald (npc := 25) (x := 20) (j := 1) dX0_isPeace_24 rfl f16 ⟨by decide, by decide⟩ rfl ?_
  refine aw_icmp_lt (npc := 28) (tgt := 32) dX0_isPeace_25 rfl (by decide) (fun _ => ?_) (fun hc => absurd (by decide) hc)
  refine aw_iconst (npc := 33) (v := 0) (by decide) dX0_isPeace_32 rfl ?_
  refine aw_zret rfl rfl dX0_isPeace_33 ?_
  exact hq
set_option maxHeartbeats 40000000 in
set_option maxRecDepth 100000 in
theorem p_bec_13 {X : List Int32} {d rc rs nn : Nat} {Q : am_Q} {hv pt hv2 pt2 : Int32} {h : am_H} (F : fq1 hv pt h) (G : fq13 hv2 pt2 h) (hq : ∀ h9, fq13 hv pt h9 → am_fb 13 25 h9 h → Q none nn h9) : AW X mX0_becomes (d + 4) rc rs 0 [some (.ref 13), some (.ref 1), none] [] nn h Q := by
  obtain ⟨f1, f2, f3, f4, f5, f6, f7, f8, f9, f10, f11, f12⟩ := F
  obtain ⟨g13, g14, g15, g16, g17, g18, g19, g20, g21, g22, g23, g24⟩ := G
  refine aw_aload_n (npc := 1) rfl dX0_becomes_0 rfl ?_
  refine aw_get (npc := 4) dX0_becomes_1 rfl kf_X0_9 f1 rfl ?_
  refine aw_iconst (npc := 5) (v := 0) (by decide) dX0_becomes_4 rfl ?_
  refine aw_aload_n (npc := 6) rfl dX0_becomes_5 rfl ?_
  refine aw_get (npc := 9) dX0_becomes_6 rfl kf_X0_9 g13 rfl ?_
  refine aw_iconst (npc := 10) (v := 0) (by decide) dX0_becomes_9 rfl ?_
  refine aw_iconst (npc := 11) (v := 4) (by decide) dX0_becomes_10 rfl ?_
  refine aw_copyi (npc := 14) (sp := 0) (dp := 0) (mm := 4) dX0_becomes_11 rfl kac_X0_73 kac_x f2 g14 ⟨by decide, by decide⟩ ⟨by decide, by decide⟩ ⟨by decide, by decide⟩ (Nat.le_of_ble_eq_true rfl) (Nat.le_of_ble_eq_true rfl) (Nat.le_of_ble_eq_true rfl) (show _ = am_up _ 14 (.inl (0, [5, 5, 5, 5])) from rfl) ?_
  refine aw_aload_n (npc := 15) rfl dX0_becomes_14 rfl ?_
  refine aw_get (npc := 18) dX0_becomes_15 rfl kf_X0_15 (am_ne (by decide) f1) rfl ?_
  refine aw_iconst (npc := 19) (v := 0) (by decide) dX0_becomes_18 rfl ?_
  refine aw_aload_n (npc := 20) rfl dX0_becomes_19 rfl ?_
  refine aw_get (npc := 23) dX0_becomes_20 rfl kf_X0_15 (am_ne (by decide) g13) rfl ?_
  refine aw_iconst (npc := 24) (v := 0) (by decide) dX0_becomes_23 rfl ?_
  refine aw_bipush (npc := 26) (v := 8) (by decide) dX0_becomes_24 rfl ?_
  refine aw_copyi (npc := 29) (sp := 0) (dp := 0) (mm := 8) dX0_becomes_26 rfl kac_X0_73 kac_x (am_ne (by decide) f3) (am_ne (by decide) g15) ⟨by decide, by decide⟩ ⟨by decide, by decide⟩ ⟨by decide, by decide⟩ (Nat.le_of_ble_eq_true rfl) (Nat.le_of_ble_eq_true rfl) (Nat.le_of_ble_eq_true rfl) (show _ = am_up _ 15 (.inl (0, [1, 1, 1, 1, 1, 1, 1, 1])) from rfl) ?_
  refine aw_aload_n (npc := 30) rfl dX0_becomes_29 rfl ?_
  refine aw_get (npc := 33) dX0_becomes_30 rfl kf_X0_18 (am_ne (by decide) (am_ne (by decide) f1)) rfl ?_
  refine aw_iconst (npc := 34) (v := 0) (by decide) dX0_becomes_33 rfl ?_
  refine aw_aload_n (npc := 35) rfl dX0_becomes_34 rfl ?_
  refine aw_get (npc := 38) dX0_becomes_35 rfl kf_X0_18 (am_ne (by decide) (am_ne (by decide) g13)) rfl ?_
  refine aw_iconst (npc := 39) (v := 0) (by decide) dX0_becomes_38 rfl ?_
  refine aw_iconst (npc := 40) (v := 2) (by decide) dX0_becomes_39 rfl ?_
  refine aw_copyi (npc := 43) (sp := 0) (dp := 0) (mm := 2) dX0_becomes_40 rfl kac_X0_73 kac_x (am_ne (by decide) (am_ne (by decide) f4)) (am_ne (by decide) (am_ne (by decide) g16)) ⟨by decide, by decide⟩ ⟨by decide, by decide⟩ ⟨by decide, by decide⟩ (Nat.le_of_ble_eq_true rfl) (Nat.le_of_ble_eq_true rfl) (Nat.le_of_ble_eq_true rfl) (show _ = am_up _ 16 (.inl (0, [20, 20])) from rfl) ?_
  refine aw_aload_n (npc := 44) rfl dX0_becomes_43 rfl ?_
  refine aw_aload_n (npc := 45) rfl dX0_becomes_44 rfl ?_
  refine aw_get (npc := 48) dX0_becomes_45 rfl kf_X0_21 (am_ne (by decide) (am_ne (by decide) (am_ne (by decide) f1))) rfl ?_
  refine aw_put (npc := 51) dX0_becomes_48 rfl kf_X0_21 (am_ne (by decide) (am_ne (by decide) (am_ne (by decide) g13))) (Nat.le_of_ble_eq_true rfl) (am_ok_int _) rfl ?_
  refine aw_aload_n (npc := 52) rfl dX0_becomes_51 rfl ?_
  refine aw_aload_n (npc := 53) rfl dX0_becomes_52 rfl ?_
  refine aw_get (npc := 56) dX0_becomes_53 rfl kf_X0_25 (am_ne (by decide) (am_ne (by decide) (am_ne (by decide) (am_ne (by decide) f1)))) rfl ?_
  refine aw_put (npc := 59) dX0_becomes_56 rfl kf_X0_25 am_eq (Nat.le_of_ble_eq_true rfl) (am_ok_int _) am_uu ?_
  refine aw_aload_n (npc := 60) rfl dX0_becomes_59 rfl ?_
  refine aw_aload_n (npc := 61) rfl dX0_becomes_60 rfl ?_
  refine aw_get (npc := 64) dX0_becomes_61 rfl kf_X0_28 (am_ne (by decide) (am_ne (by decide) (am_ne (by decide) (am_ne (by decide) f1)))) rfl ?_
  refine aw_put (npc := 67) dX0_becomes_64 rfl kf_X0_28 am_eq (Nat.le_of_ble_eq_true rfl) (am_ok_int _) am_uu ?_
  refine aw_aload_n (npc := 68) rfl dX0_becomes_67 rfl ?_
  refine aw_aload_n (npc := 69) rfl dX0_becomes_68 rfl ?_
  refine aw_get (npc := 72) dX0_becomes_69 rfl kf_X0_31 (am_ne (by decide) (am_ne (by decide) (am_ne (by decide) (am_ne (by decide) f1)))) rfl ?_
  refine aw_put (npc := 75) dX0_becomes_72 rfl kf_X0_31 am_eq (Nat.le_of_ble_eq_true rfl) (am_ok_int _) am_uu ?_
  refine aw_aload_n (npc := 76) rfl dX0_becomes_75 rfl ?_
  refine aw_aload_n (npc := 77) rfl dX0_becomes_76 rfl ?_
  refine aw_get (npc := 80) dX0_becomes_77 rfl kf_X0_34 (am_ne (by decide) (am_ne (by decide) (am_ne (by decide) (am_ne (by decide) f1)))) rfl ?_
  refine aw_put (npc := 83) dX0_becomes_80 rfl kf_X0_34 am_eq (Nat.le_of_ble_eq_true rfl) (am_ok_int _) am_uu ?_
  refine aw_aload_n (npc := 84) rfl dX0_becomes_83 rfl ?_
  refine aw_aload_n (npc := 85) rfl dX0_becomes_84 rfl ?_
  refine aw_get (npc := 88) dX0_becomes_85 rfl kf_X0_37 (am_ne (by decide) (am_ne (by decide) (am_ne (by decide) (am_ne (by decide) f1)))) rfl ?_
  refine aw_put (npc := 91) dX0_becomes_88 rfl kf_X0_37 am_eq (Nat.le_of_ble_eq_true rfl) (am_ok_int _) am_uu ?_
  refine aw_aload_n (npc := 92) rfl dX0_becomes_91 rfl ?_
  refine aw_aload_n (npc := 93) rfl dX0_becomes_92 rfl ?_
  refine aw_get (npc := 96) dX0_becomes_93 rfl kf_X0_40 (am_ne (by decide) (am_ne (by decide) (am_ne (by decide) (am_ne (by decide) f1)))) rfl ?_
  refine aw_put (npc := 99) dX0_becomes_96 rfl kf_X0_40 am_eq (Nat.le_of_ble_eq_true rfl) (am_ok_int _) am_uu ?_
  refine aw_aload_n (npc := 100) rfl dX0_becomes_99 rfl ?_
  refine aw_get (npc := 103) dX0_becomes_100 rfl kf_X0_43 (am_ne (by decide) (am_ne (by decide) (am_ne (by decide) (am_ne (by decide) f1)))) rfl ?_
  refine aw_iconst (npc := 104) (v := 0) (by decide) dX0_becomes_103 rfl ?_
  refine aw_aload_n (npc := 105) rfl dX0_becomes_104 rfl ?_
  refine aw_get (npc := 108) dX0_becomes_105 rfl kf_X0_43 am_eq rfl ?_
  refine aw_iconst (npc := 109) (v := 0) (by decide) dX0_becomes_108 rfl ?_
  refine aw_bipush (npc := 111) (v := 8) (by decide) dX0_becomes_109 rfl ?_
  refine aw_copyi (npc := 114) (sp := 0) (dp := 0) (mm := 8) dX0_becomes_111 rfl kac_X0_73 kac_x (am_ne (by decide) (am_ne (by decide) (am_ne (by decide) (am_ne (by decide) f5)))) (am_ne (by decide) (am_ne (by decide) (am_ne (by decide) (am_ne (by decide) g17)))) ⟨by decide, by decide⟩ ⟨by decide, by decide⟩ ⟨by decide, by decide⟩ (Nat.le_of_ble_eq_true rfl) (Nat.le_of_ble_eq_true rfl) (Nat.le_of_ble_eq_true rfl) (show _ = am_up _ 17 (.inl (0, [0, 0, 0, 0, 0, 0, 0, 0])) from rfl) ?_
  refine aw_aload_n (npc := 115) rfl dX0_becomes_114 rfl ?_
  refine aw_get (npc := 118) dX0_becomes_115 rfl kf_X0_46 (am_ne (by decide) (am_ne (by decide) (am_ne (by decide) (am_ne (by decide) (am_ne (by decide) f1))))) rfl ?_
  refine aw_iconst (npc := 119) (v := 0) (by decide) dX0_becomes_118 rfl ?_
  refine aw_aload_n (npc := 120) rfl dX0_becomes_119 rfl ?_
  refine aw_get (npc := 123) dX0_becomes_120 rfl kf_X0_46 (am_ne (by decide) am_eq) rfl ?_
  refine aw_iconst (npc := 124) (v := 0) (by decide) dX0_becomes_123 rfl ?_
  refine aw_bipush (npc := 126) (v := 8) (by decide) dX0_becomes_124 rfl ?_
  refine aw_copyi (npc := 129) (sp := 0) (dp := 0) (mm := 8) dX0_becomes_126 rfl kac_X0_73 kac_x (am_ne (by decide) (am_ne (by decide) (am_ne (by decide) (am_ne (by decide) (am_ne (by decide) f6))))) (am_ne (by decide) (am_ne (by decide) (am_ne (by decide) (am_ne (by decide) (am_ne (by decide) g18))))) ⟨by decide, by decide⟩ ⟨by decide, by decide⟩ ⟨by decide, by decide⟩ (Nat.le_of_ble_eq_true rfl) (Nat.le_of_ble_eq_true rfl) (Nat.le_of_ble_eq_true rfl) (show _ = am_up _ 18 (.inl (0, [0, 0, 0, 0, 0, 0, 0, 0])) from rfl) ?_
  refine aw_aload_n (npc := 130) rfl dX0_becomes_129 rfl ?_
  refine aw_get (npc := 133) dX0_becomes_130 rfl kf_X0_49 (am_ne (by decide) (am_ne (by decide) (am_ne (by decide) (am_ne (by decide) (am_ne (by decide) (am_ne (by decide) f1)))))) rfl ?_
  refine aw_iconst (npc := 134) (v := 0) (by decide) dX0_becomes_133 rfl ?_
  refine aw_aload_n (npc := 135) rfl dX0_becomes_134 rfl ?_
  refine aw_get (npc := 138) dX0_becomes_135 rfl kf_X0_49 (am_ne (by decide) (am_ne (by decide) am_eq)) rfl ?_
  refine aw_iconst (npc := 139) (v := 0) (by decide) dX0_becomes_138 rfl ?_
  refine aw_bipush (npc := 141) (v := 8) (by decide) dX0_becomes_139 rfl ?_
  refine aw_copyi (npc := 144) (sp := 0) (dp := 0) (mm := 8) dX0_becomes_141 rfl kac_X0_73 kac_x (am_ne (by decide) (am_ne (by decide) (am_ne (by decide) (am_ne (by decide) (am_ne (by decide) (am_ne (by decide) f7)))))) (am_ne (by decide) (am_ne (by decide) (am_ne (by decide) (am_ne (by decide) (am_ne (by decide) (am_ne (by decide) g19)))))) ⟨by decide, by decide⟩ ⟨by decide, by decide⟩ ⟨by decide, by decide⟩ (Nat.le_of_ble_eq_true rfl) (Nat.le_of_ble_eq_true rfl) (Nat.le_of_ble_eq_true rfl) (show _ = am_up _ 19 (.inl (0, [0, 0, 0, 0, 0, 0, 0, 0])) from rfl) ?_
  refine aw_aload_n (npc := 145) rfl dX0_becomes_144 rfl ?_
  refine aw_get (npc := 148) dX0_becomes_145 rfl kf_X0_52 (am_ne (by decide) (am_ne (by decide) (am_ne (by decide) (am_ne (by decide) (am_ne (by decide) (am_ne (by decide) (am_ne (by decide) f1))))))) rfl ?_
  refine aw_iconst (npc := 149) (v := 0) (by decide) dX0_becomes_148 rfl ?_
  refine aw_aload_n (npc := 150) rfl dX0_becomes_149 rfl ?_
  refine aw_get (npc := 153) dX0_becomes_150 rfl kf_X0_52 (am_ne (by decide) (am_ne (by decide) (am_ne (by decide) am_eq))) rfl ?_
  refine aw_iconst (npc := 154) (v := 0) (by decide) dX0_becomes_153 rfl ?_
  refine aw_bipush (npc := 156) (v := 8) (by decide) dX0_becomes_154 rfl ?_
  refine aw_copyi (npc := 159) (sp := 0) (dp := 0) (mm := 8) dX0_becomes_156 rfl kac_X0_73 kac_x (am_ne (by decide) (am_ne (by decide) (am_ne (by decide) (am_ne (by decide) (am_ne (by decide) (am_ne (by decide) (am_ne (by decide) f8))))))) (am_ne (by decide) (am_ne (by decide) (am_ne (by decide) (am_ne (by decide) (am_ne (by decide) (am_ne (by decide) (am_ne (by decide) g20))))))) ⟨by decide, by decide⟩ ⟨by decide, by decide⟩ ⟨by decide, by decide⟩ (Nat.le_of_ble_eq_true rfl) (Nat.le_of_ble_eq_true rfl) (Nat.le_of_ble_eq_true rfl) (show _ = am_up _ 20 (.inl (0, [0, 0, 0, 0, 0, 0, 0, 0])) from rfl) ?_
  refine aw_aload_n (npc := 160) rfl dX0_becomes_159 rfl ?_
  refine aw_get (npc := 163) dX0_becomes_160 rfl kf_X0_55 (am_ne (by decide) (am_ne (by decide) (am_ne (by decide) (am_ne (by decide) (am_ne (by decide) (am_ne (by decide) (am_ne (by decide) (am_ne (by decide) f1)))))))) rfl ?_
  refine aw_iconst (npc := 164) (v := 0) (by decide) dX0_becomes_163 rfl ?_
  refine aw_aload_n (npc := 165) rfl dX0_becomes_164 rfl ?_
  refine aw_get (npc := 168) dX0_becomes_165 rfl kf_X0_55 (am_ne (by decide) (am_ne (by decide) (am_ne (by decide) (am_ne (by decide) am_eq)))) rfl ?_
  refine aw_iconst (npc := 169) (v := 0) (by decide) dX0_becomes_168 rfl ?_
  refine aw_bipush (npc := 171) (v := 8) (by decide) dX0_becomes_169 rfl ?_
  refine aw_copyi (npc := 174) (sp := 0) (dp := 0) (mm := 8) dX0_becomes_171 rfl kac_X0_73 kac_x (am_ne (by decide) (am_ne (by decide) (am_ne (by decide) (am_ne (by decide) (am_ne (by decide) (am_ne (by decide) (am_ne (by decide) (am_ne (by decide) f9)))))))) (am_ne (by decide) (am_ne (by decide) (am_ne (by decide) (am_ne (by decide) (am_ne (by decide) (am_ne (by decide) (am_ne (by decide) (am_ne (by decide) g21)))))))) ⟨by decide, by decide⟩ ⟨by decide, by decide⟩ ⟨by decide, by decide⟩ (Nat.le_of_ble_eq_true rfl) (Nat.le_of_ble_eq_true rfl) (Nat.le_of_ble_eq_true rfl) (show _ = am_up _ 21 (.inl (0, [0, 0, 0, 0, 0, 0, 0, 0])) from rfl) ?_
  refine aw_iconst (npc := 175) (v := 0) (by decide) dX0_becomes_174 rfl ?_
  refine aw_istore_n (npc := 176) (L' := [some (.ref 13), some (.ref 1), some (.int 0)]) dX0_becomes_175 rfl (by decide) rfl rfl ?_
  refine aw_iload_n (npc := 177) rfl dX0_becomes_176 rfl ?_
  refine aw_bipush (npc := 179) (v := 14) (by decide) dX0_becomes_177 rfl ?_
  refine aw_icmp_ge (npc := 182) (tgt := 200) dX0_becomes_179 rfl (by decide) (fun hc => absurd hc (by decide)) (fun _ => ?_)
  refine aw_aload_n (npc := 183) rfl dX0_becomes_182 rfl ?_
  refine aw_get (npc := 186) dX0_becomes_183 rfl kf_X0_60 (am_ne (by decide) (am_ne (by decide) (am_ne (by decide) (am_ne (by decide) (am_ne (by decide) am_eq))))) rfl ?_
  refine aw_iload_n (npc := 187) rfl dX0_becomes_186 rfl ?_
  refine aw_aload_n (npc := 188) rfl dX0_becomes_187 rfl ?_
  refine aw_get (npc := 191) dX0_becomes_188 rfl kf_X0_60 (am_ne (by decide) (am_ne (by decide) (am_ne (by decide) (am_ne (by decide) (am_ne (by decide) (am_ne (by decide) (am_ne (by decide) (am_ne (by decide) (am_ne (by decide) f1))))))))) rfl ?_
  refine aw_iload_n (npc := 192) rfl dX0_becomes_191 rfl ?_
  refine aw_aald (npc := 193) (j := 0) dX0_becomes_192 rfl (by decide) (am_ne (by decide) (am_ne (by decide) (am_ne (by decide) (am_ne (by decide) (am_ne (by decide) (am_ne (by decide) (am_ne (by decide) (am_ne (by decide) (am_ne (by decide) f10))))))))) ⟨by decide, by decide⟩ rfl ?_
  refine aw_aastN (npc := 194) (j := 0) dX0_becomes_193 rfl (by decide) (am_ne (by decide) (am_ne (by decide) (am_ne (by decide) (am_ne (by decide) (am_ne (by decide) (am_ne (by decide) (am_ne (by decide) (am_ne (by decide) (am_ne (by decide) g22))))))))) ⟨by decide, by decide⟩ (by decide) rfl ?_
  refine aw_iinc (npc := 197) (v := 1) (L' := [some (.ref 13), some (.ref 1), some (.int 1)]) dX0_becomes_194 rfl rfl (by decide) (by decide) rfl rfl ?_
  refine aw_goto (npc := 176) dX0_becomes_197 (by decide) ?_
  refine aw_iload_n (npc := 177) rfl dX0_becomes_176 rfl ?_
  refine aw_bipush (npc := 179) (v := 14) (by decide) dX0_becomes_177 rfl ?_
  refine aw_icmp_ge (npc := 182) (tgt := 200) dX0_becomes_179 rfl (by decide) (fun hc => absurd hc (by decide)) (fun _ => ?_)
  refine aw_aload_n (npc := 183) rfl dX0_becomes_182 rfl ?_
  refine aw_get (npc := 186) dX0_becomes_183 rfl kf_X0_60 (am_ne (by decide) (am_ne (by decide) (am_ne (by decide) (am_ne (by decide) (am_ne (by decide) (am_ne (by decide) am_eq)))))) rfl ?_
  refine aw_iload_n (npc := 187) rfl dX0_becomes_186 rfl ?_
  refine aw_aload_n (npc := 188) rfl dX0_becomes_187 rfl ?_
  refine aw_get (npc := 191) dX0_becomes_188 rfl kf_X0_60 (am_ne (by decide) (am_ne (by decide) (am_ne (by decide) (am_ne (by decide) (am_ne (by decide) (am_ne (by decide) (am_ne (by decide) (am_ne (by decide) (am_ne (by decide) (am_ne (by decide) f1)))))))))) rfl ?_
  refine aw_iload_n (npc := 192) rfl dX0_becomes_191 rfl ?_
  refine aw_aald (npc := 193) (j := 1) dX0_becomes_192 rfl (by decide) (am_ne (by decide) (am_ne (by decide) (am_ne (by decide) (am_ne (by decide) (am_ne (by decide) (am_ne (by decide) (am_ne (by decide) (am_ne (by decide) (am_ne (by decide) (am_ne (by decide) f10)))))))))) ⟨by decide, by decide⟩ rfl ?_
  refine aw_aastN (npc := 194) (j := 1) dX0_becomes_193 rfl (by decide) am_eq ⟨by decide, by decide⟩ (by decide) am_uu ?_
  refine aw_iinc (npc := 197) (v := 2) (L' := [some (.ref 13), some (.ref 1), some (.int 2)]) dX0_becomes_194 rfl rfl (by decide) (by decide) rfl rfl ?_
  refine aw_goto (npc := 176) dX0_becomes_197 (by decide) ?_
  refine aw_iload_n (npc := 177) rfl dX0_becomes_176 rfl ?_
  refine aw_bipush (npc := 179) (v := 14) (by decide) dX0_becomes_177 rfl ?_
  refine aw_icmp_ge (npc := 182) (tgt := 200) dX0_becomes_179 rfl (by decide) (fun hc => absurd hc (by decide)) (fun _ => ?_)
  refine aw_aload_n (npc := 183) rfl dX0_becomes_182 rfl ?_
  refine aw_get (npc := 186) dX0_becomes_183 rfl kf_X0_60 (am_ne (by decide) (am_ne (by decide) (am_ne (by decide) (am_ne (by decide) (am_ne (by decide) (am_ne (by decide) am_eq)))))) rfl ?_
  refine aw_iload_n (npc := 187) rfl dX0_becomes_186 rfl ?_
  refine aw_aload_n (npc := 188) rfl dX0_becomes_187 rfl ?_
  refine aw_get (npc := 191) dX0_becomes_188 rfl kf_X0_60 (am_ne (by decide) (am_ne (by decide) (am_ne (by decide) (am_ne (by decide) (am_ne (by decide) (am_ne (by decide) (am_ne (by decide) (am_ne (by decide) (am_ne (by decide) (am_ne (by decide) f1)))))))))) rfl ?_
  refine aw_iload_n (npc := 192) rfl dX0_becomes_191 rfl ?_
  refine aw_aald (npc := 193) (j := 2) dX0_becomes_192 rfl (by decide) (am_ne (by decide) (am_ne (by decide) (am_ne (by decide) (am_ne (by decide) (am_ne (by decide) (am_ne (by decide) (am_ne (by decide) (am_ne (by decide) (am_ne (by decide) (am_ne (by decide) f10)))))))))) ⟨by decide, by decide⟩ rfl ?_
  refine aw_aastN (npc := 194) (j := 2) dX0_becomes_193 rfl (by decide) am_eq ⟨by decide, by decide⟩ (by decide) am_uu ?_
  refine aw_iinc (npc := 197) (v := 3) (L' := [some (.ref 13), some (.ref 1), some (.int 3)]) dX0_becomes_194 rfl rfl (by decide) (by decide) rfl rfl ?_
  refine aw_goto (npc := 176) dX0_becomes_197 (by decide) ?_
  refine aw_iload_n (npc := 177) rfl dX0_becomes_176 rfl ?_
  refine aw_bipush (npc := 179) (v := 14) (by decide) dX0_becomes_177 rfl ?_
  refine aw_icmp_ge (npc := 182) (tgt := 200) dX0_becomes_179 rfl (by decide) (fun hc => absurd hc (by decide)) (fun _ => ?_)
  refine aw_aload_n (npc := 183) rfl dX0_becomes_182 rfl ?_
  refine aw_get (npc := 186) dX0_becomes_183 rfl kf_X0_60 (am_ne (by decide) (am_ne (by decide) (am_ne (by decide) (am_ne (by decide) (am_ne (by decide) (am_ne (by decide) am_eq)))))) rfl ?_
  refine aw_iload_n (npc := 187) rfl dX0_becomes_186 rfl ?_
  refine aw_aload_n (npc := 188) rfl dX0_becomes_187 rfl ?_
  refine aw_get (npc := 191) dX0_becomes_188 rfl kf_X0_60 (am_ne (by decide) (am_ne (by decide) (am_ne (by decide) (am_ne (by decide) (am_ne (by decide) (am_ne (by decide) (am_ne (by decide) (am_ne (by decide) (am_ne (by decide) (am_ne (by decide) f1)))))))))) rfl ?_
  refine aw_iload_n (npc := 192) rfl dX0_becomes_191 rfl ?_
  refine aw_aald (npc := 193) (j := 3) dX0_becomes_192 rfl (by decide) (am_ne (by decide) (am_ne (by decide) (am_ne (by decide) (am_ne (by decide) (am_ne (by decide) (am_ne (by decide) (am_ne (by decide) (am_ne (by decide) (am_ne (by decide) (am_ne (by decide) f10)))))))))) ⟨by decide, by decide⟩ rfl ?_
  refine aw_aastN (npc := 194) (j := 3) dX0_becomes_193 rfl (by decide) am_eq ⟨by decide, by decide⟩ (by decide) am_uu ?_
  refine aw_iinc (npc := 197) (v := 4) (L' := [some (.ref 13), some (.ref 1), some (.int 4)]) dX0_becomes_194 rfl rfl (by decide) (by decide) rfl rfl ?_
  refine aw_goto (npc := 176) dX0_becomes_197 (by decide) ?_
  refine aw_iload_n (npc := 177) rfl dX0_becomes_176 rfl ?_
  refine aw_bipush (npc := 179) (v := 14) (by decide) dX0_becomes_177 rfl ?_
  refine aw_icmp_ge (npc := 182) (tgt := 200) dX0_becomes_179 rfl (by decide) (fun hc => absurd hc (by decide)) (fun _ => ?_)
  refine aw_aload_n (npc := 183) rfl dX0_becomes_182 rfl ?_
  refine aw_get (npc := 186) dX0_becomes_183 rfl kf_X0_60 (am_ne (by decide) (am_ne (by decide) (am_ne (by decide) (am_ne (by decide) (am_ne (by decide) (am_ne (by decide) am_eq)))))) rfl ?_
  refine aw_iload_n (npc := 187) rfl dX0_becomes_186 rfl ?_
  refine aw_aload_n (npc := 188) rfl dX0_becomes_187 rfl ?_
  refine aw_get (npc := 191) dX0_becomes_188 rfl kf_X0_60 (am_ne (by decide) (am_ne (by decide) (am_ne (by decide) (am_ne (by decide) (am_ne (by decide) (am_ne (by decide) (am_ne (by decide) (am_ne (by decide) (am_ne (by decide) (am_ne (by decide) f1)))))))))) rfl ?_
  refine aw_iload_n (npc := 192) rfl dX0_becomes_191 rfl ?_
  refine aw_aald (npc := 193) (j := 4) dX0_becomes_192 rfl (by decide) (am_ne (by decide) (am_ne (by decide) (am_ne (by decide) (am_ne (by decide) (am_ne (by decide) (am_ne (by decide) (am_ne (by decide) (am_ne (by decide) (am_ne (by decide) (am_ne (by decide) f10)))))))))) ⟨by decide, by decide⟩ rfl ?_
  refine aw_aastN (npc := 194) (j := 4) dX0_becomes_193 rfl (by decide) am_eq ⟨by decide, by decide⟩ (by decide) am_uu ?_
  refine aw_iinc (npc := 197) (v := 5) (L' := [some (.ref 13), some (.ref 1), some (.int 5)]) dX0_becomes_194 rfl rfl (by decide) (by decide) rfl rfl ?_
  refine aw_goto (npc := 176) dX0_becomes_197 (by decide) ?_
  refine aw_iload_n (npc := 177) rfl dX0_becomes_176 rfl ?_
  refine aw_bipush (npc := 179) (v := 14) (by decide) dX0_becomes_177 rfl ?_
  refine aw_icmp_ge (npc := 182) (tgt := 200) dX0_becomes_179 rfl (by decide) (fun hc => absurd hc (by decide)) (fun _ => ?_)
  refine aw_aload_n (npc := 183) rfl dX0_becomes_182 rfl ?_
  refine aw_get (npc := 186) dX0_becomes_183 rfl kf_X0_60 (am_ne (by decide) (am_ne (by decide) (am_ne (by decide) (am_ne (by decide) (am_ne (by decide) (am_ne (by decide) am_eq)))))) rfl ?_
  refine aw_iload_n (npc := 187) rfl dX0_becomes_186 rfl ?_
  refine aw_aload_n (npc := 188) rfl dX0_becomes_187 rfl ?_
  refine aw_get (npc := 191) dX0_becomes_188 rfl kf_X0_60 (am_ne (by decide) (am_ne (by decide) (am_ne (by decide) (am_ne (by decide) (am_ne (by decide) (am_ne (by decide) (am_ne (by decide) (am_ne (by decide) (am_ne (by decide) (am_ne (by decide) f1)))))))))) rfl ?_
  refine aw_iload_n (npc := 192) rfl dX0_becomes_191 rfl ?_
  refine aw_aald (npc := 193) (j := 5) dX0_becomes_192 rfl (by decide) (am_ne (by decide) (am_ne (by decide) (am_ne (by decide) (am_ne (by decide) (am_ne (by decide) (am_ne (by decide) (am_ne (by decide) (am_ne (by decide) (am_ne (by decide) (am_ne (by decide) f10)))))))))) ⟨by decide, by decide⟩ rfl ?_
  refine aw_aastN (npc := 194) (j := 5) dX0_becomes_193 rfl (by decide) am_eq ⟨by decide, by decide⟩ (by decide) am_uu ?_
  refine aw_iinc (npc := 197) (v := 6) (L' := [some (.ref 13), some (.ref 1), some (.int 6)]) dX0_becomes_194 rfl rfl (by decide) (by decide) rfl rfl ?_
  refine aw_goto (npc := 176) dX0_becomes_197 (by decide) ?_
  refine aw_iload_n (npc := 177) rfl dX0_becomes_176 rfl ?_
  refine aw_bipush (npc := 179) (v := 14) (by decide) dX0_becomes_177 rfl ?_
  refine aw_icmp_ge (npc := 182) (tgt := 200) dX0_becomes_179 rfl (by decide) (fun hc => absurd hc (by decide)) (fun _ => ?_)
  refine aw_aload_n (npc := 183) rfl dX0_becomes_182 rfl ?_
  refine aw_get (npc := 186) dX0_becomes_183 rfl kf_X0_60 (am_ne (by decide) (am_ne (by decide) (am_ne (by decide) (am_ne (by decide) (am_ne (by decide) (am_ne (by decide) am_eq)))))) rfl ?_
  refine aw_iload_n (npc := 187) rfl dX0_becomes_186 rfl ?_
  refine aw_aload_n (npc := 188) rfl dX0_becomes_187 rfl ?_
  refine aw_get (npc := 191) dX0_becomes_188 rfl kf_X0_60 (am_ne (by decide) (am_ne (by decide) (am_ne (by decide) (am_ne (by decide) (am_ne (by decide) (am_ne (by decide) (am_ne (by decide) (am_ne (by decide) (am_ne (by decide) (am_ne (by decide) f1)))))))))) rfl ?_
  refine aw_iload_n (npc := 192) rfl dX0_becomes_191 rfl ?_
  refine aw_aald (npc := 193) (j := 6) dX0_becomes_192 rfl (by decide) (am_ne (by decide) (am_ne (by decide) (am_ne (by decide) (am_ne (by decide) (am_ne (by decide) (am_ne (by decide) (am_ne (by decide) (am_ne (by decide) (am_ne (by decide) (am_ne (by decide) f10)))))))))) ⟨by decide, by decide⟩ rfl ?_
  refine aw_aastN (npc := 194) (j := 6) dX0_becomes_193 rfl (by decide) am_eq ⟨by decide, by decide⟩ (by decide) am_uu ?_
  refine aw_iinc (npc := 197) (v := 7) (L' := [some (.ref 13), some (.ref 1), some (.int 7)]) dX0_becomes_194 rfl rfl (by decide) (by decide) rfl rfl ?_
  refine aw_goto (npc := 176) dX0_becomes_197 (by decide) ?_
  refine aw_iload_n (npc := 177) rfl dX0_becomes_176 rfl ?_
  refine aw_bipush (npc := 179) (v := 14) (by decide) dX0_becomes_177 rfl ?_
  refine aw_icmp_ge (npc := 182) (tgt := 200) dX0_becomes_179 rfl (by decide) (fun hc => absurd hc (by decide)) (fun _ => ?_)
  refine aw_aload_n (npc := 183) rfl dX0_becomes_182 rfl ?_
  refine aw_get (npc := 186) dX0_becomes_183 rfl kf_X0_60 (am_ne (by decide) (am_ne (by decide) (am_ne (by decide) (am_ne (by decide) (am_ne (by decide) (am_ne (by decide) am_eq)))))) rfl ?_
  refine aw_iload_n (npc := 187) rfl dX0_becomes_186 rfl ?_
  refine aw_aload_n (npc := 188) rfl dX0_becomes_187 rfl ?_
  refine aw_get (npc := 191) dX0_becomes_188 rfl kf_X0_60 (am_ne (by decide) (am_ne (by decide) (am_ne (by decide) (am_ne (by decide) (am_ne (by decide) (am_ne (by decide) (am_ne (by decide) (am_ne (by decide) (am_ne (by decide) (am_ne (by decide) f1)))))))))) rfl ?_
  refine aw_iload_n (npc := 192) rfl dX0_becomes_191 rfl ?_
  refine aw_aald (npc := 193) (j := 7) dX0_becomes_192 rfl (by decide) (am_ne (by decide) (am_ne (by decide) (am_ne (by decide) (am_ne (by decide) (am_ne (by decide) (am_ne (by decide) (am_ne (by decide) (am_ne (by decide) (am_ne (by decide) (am_ne (by decide) f10)))))))))) ⟨by decide, by decide⟩ rfl ?_
  refine aw_aastN (npc := 194) (j := 7) dX0_becomes_193 rfl (by decide) am_eq ⟨by decide, by decide⟩ (by decide) am_uu ?_
  refine aw_iinc (npc := 197) (v := 8) (L' := [some (.ref 13), some (.ref 1), some (.int 8)]) dX0_becomes_194 rfl rfl (by decide) (by decide) rfl rfl ?_
  refine aw_goto (npc := 176) dX0_becomes_197 (by decide) ?_
  refine aw_iload_n (npc := 177) rfl dX0_becomes_176 rfl ?_
  refine aw_bipush (npc := 179) (v := 14) (by decide) dX0_becomes_177 rfl ?_
  refine aw_icmp_ge (npc := 182) (tgt := 200) dX0_becomes_179 rfl (by decide) (fun hc => absurd hc (by decide)) (fun _ => ?_)
  refine aw_aload_n (npc := 183) rfl dX0_becomes_182 rfl ?_
  refine aw_get (npc := 186) dX0_becomes_183 rfl kf_X0_60 (am_ne (by decide) (am_ne (by decide) (am_ne (by decide) (am_ne (by decide) (am_ne (by decide) (am_ne (by decide) am_eq)))))) rfl ?_
  refine aw_iload_n (npc := 187) rfl dX0_becomes_186 rfl ?_
  refine aw_aload_n (npc := 188) rfl dX0_becomes_187 rfl ?_
  refine aw_get (npc := 191) dX0_becomes_188 rfl kf_X0_60 (am_ne (by decide) (am_ne (by decide) (am_ne (by decide) (am_ne (by decide) (am_ne (by decide) (am_ne (by decide) (am_ne (by decide) (am_ne (by decide) (am_ne (by decide) (am_ne (by decide) f1)))))))))) rfl ?_
  refine aw_iload_n (npc := 192) rfl dX0_becomes_191 rfl ?_
  refine aw_aald (npc := 193) (j := 8) dX0_becomes_192 rfl (by decide) (am_ne (by decide) (am_ne (by decide) (am_ne (by decide) (am_ne (by decide) (am_ne (by decide) (am_ne (by decide) (am_ne (by decide) (am_ne (by decide) (am_ne (by decide) (am_ne (by decide) f10)))))))))) ⟨by decide, by decide⟩ rfl ?_
  refine aw_aastN (npc := 194) (j := 8) dX0_becomes_193 rfl (by decide) am_eq ⟨by decide, by decide⟩ (by decide) am_uu ?_
  refine aw_iinc (npc := 197) (v := 9) (L' := [some (.ref 13), some (.ref 1), some (.int 9)]) dX0_becomes_194 rfl rfl (by decide) (by decide) rfl rfl ?_
  refine aw_goto (npc := 176) dX0_becomes_197 (by decide) ?_
  refine aw_iload_n (npc := 177) rfl dX0_becomes_176 rfl ?_
  refine aw_bipush (npc := 179) (v := 14) (by decide) dX0_becomes_177 rfl ?_
  refine aw_icmp_ge (npc := 182) (tgt := 200) dX0_becomes_179 rfl (by decide) (fun hc => absurd hc (by decide)) (fun _ => ?_)
  refine aw_aload_n (npc := 183) rfl dX0_becomes_182 rfl ?_
  refine aw_get (npc := 186) dX0_becomes_183 rfl kf_X0_60 (am_ne (by decide) (am_ne (by decide) (am_ne (by decide) (am_ne (by decide) (am_ne (by decide) (am_ne (by decide) am_eq)))))) rfl ?_
  refine aw_iload_n (npc := 187) rfl dX0_becomes_186 rfl ?_
  refine aw_aload_n (npc := 188) rfl dX0_becomes_187 rfl ?_
  refine aw_get (npc := 191) dX0_becomes_188 rfl kf_X0_60 (am_ne (by decide) (am_ne (by decide) (am_ne (by decide) (am_ne (by decide) (am_ne (by decide) (am_ne (by decide) (am_ne (by decide) (am_ne (by decide) (am_ne (by decide) (am_ne (by decide) f1)))))))))) rfl ?_
  refine aw_iload_n (npc := 192) rfl dX0_becomes_191 rfl ?_
  refine aw_aald (npc := 193) (j := 9) dX0_becomes_192 rfl (by decide) (am_ne (by decide) (am_ne (by decide) (am_ne (by decide) (am_ne (by decide) (am_ne (by decide) (am_ne (by decide) (am_ne (by decide) (am_ne (by decide) (am_ne (by decide) (am_ne (by decide) f10)))))))))) ⟨by decide, by decide⟩ rfl ?_
  refine aw_aastN (npc := 194) (j := 9) dX0_becomes_193 rfl (by decide) am_eq ⟨by decide, by decide⟩ (by decide) am_uu ?_
  refine aw_iinc (npc := 197) (v := 10) (L' := [some (.ref 13), some (.ref 1), some (.int 10)]) dX0_becomes_194 rfl rfl (by decide) (by decide) rfl rfl ?_
  refine aw_goto (npc := 176) dX0_becomes_197 (by decide) ?_
  refine aw_iload_n (npc := 177) rfl dX0_becomes_176 rfl ?_
  refine aw_bipush (npc := 179) (v := 14) (by decide) dX0_becomes_177 rfl ?_
  refine aw_icmp_ge (npc := 182) (tgt := 200) dX0_becomes_179 rfl (by decide) (fun hc => absurd hc (by decide)) (fun _ => ?_)
  refine aw_aload_n (npc := 183) rfl dX0_becomes_182 rfl ?_
  refine aw_get (npc := 186) dX0_becomes_183 rfl kf_X0_60 (am_ne (by decide) (am_ne (by decide) (am_ne (by decide) (am_ne (by decide) (am_ne (by decide) (am_ne (by decide) am_eq)))))) rfl ?_
  refine aw_iload_n (npc := 187) rfl dX0_becomes_186 rfl ?_
  refine aw_aload_n (npc := 188) rfl dX0_becomes_187 rfl ?_
  refine aw_get (npc := 191) dX0_becomes_188 rfl kf_X0_60 (am_ne (by decide) (am_ne (by decide) (am_ne (by decide) (am_ne (by decide) (am_ne (by decide) (am_ne (by decide) (am_ne (by decide) (am_ne (by decide) (am_ne (by decide) (am_ne (by decide) f1)))))))))) rfl ?_
  refine aw_iload_n (npc := 192) rfl dX0_becomes_191 rfl ?_
  refine aw_aald (npc := 193) (j := 10) dX0_becomes_192 rfl (by decide) (am_ne (by decide) (am_ne (by decide) (am_ne (by decide) (am_ne (by decide) (am_ne (by decide) (am_ne (by decide) (am_ne (by decide) (am_ne (by decide) (am_ne (by decide) (am_ne (by decide) f10)))))))))) ⟨by decide, by decide⟩ rfl ?_
  refine aw_aastN (npc := 194) (j := 10) dX0_becomes_193 rfl (by decide) am_eq ⟨by decide, by decide⟩ (by decide) am_uu ?_
  refine aw_iinc (npc := 197) (v := 11) (L' := [some (.ref 13), some (.ref 1), some (.int 11)]) dX0_becomes_194 rfl rfl (by decide) (by decide) rfl rfl ?_
  refine aw_goto (npc := 176) dX0_becomes_197 (by decide) ?_
  refine aw_iload_n (npc := 177) rfl dX0_becomes_176 rfl ?_
  refine aw_bipush (npc := 179) (v := 14) (by decide) dX0_becomes_177 rfl ?_
  refine aw_icmp_ge (npc := 182) (tgt := 200) dX0_becomes_179 rfl (by decide) (fun hc => absurd hc (by decide)) (fun _ => ?_)
  refine aw_aload_n (npc := 183) rfl dX0_becomes_182 rfl ?_
  refine aw_get (npc := 186) dX0_becomes_183 rfl kf_X0_60 (am_ne (by decide) (am_ne (by decide) (am_ne (by decide) (am_ne (by decide) (am_ne (by decide) (am_ne (by decide) am_eq)))))) rfl ?_
  refine aw_iload_n (npc := 187) rfl dX0_becomes_186 rfl ?_
  refine aw_aload_n (npc := 188) rfl dX0_becomes_187 rfl ?_
  refine aw_get (npc := 191) dX0_becomes_188 rfl kf_X0_60 (am_ne (by decide) (am_ne (by decide) (am_ne (by decide) (am_ne (by decide) (am_ne (by decide) (am_ne (by decide) (am_ne (by decide) (am_ne (by decide) (am_ne (by decide) (am_ne (by decide) f1)))))))))) rfl ?_
  refine aw_iload_n (npc := 192) rfl dX0_becomes_191 rfl ?_
  refine aw_aald (npc := 193) (j := 11) dX0_becomes_192 rfl (by decide) (am_ne (by decide) (am_ne (by decide) (am_ne (by decide) (am_ne (by decide) (am_ne (by decide) (am_ne (by decide) (am_ne (by decide) (am_ne (by decide) (am_ne (by decide) (am_ne (by decide) f10)))))))))) ⟨by decide, by decide⟩ rfl ?_
  refine aw_aastN (npc := 194) (j := 11) dX0_becomes_193 rfl (by decide) am_eq ⟨by decide, by decide⟩ (by decide) am_uu ?_
  refine aw_iinc (npc := 197) (v := 12) (L' := [some (.ref 13), some (.ref 1), some (.int 12)]) dX0_becomes_194 rfl rfl (by decide) (by decide) rfl rfl ?_
  refine aw_goto (npc := 176) dX0_becomes_197 (by decide) ?_
  refine aw_iload_n (npc := 177) rfl dX0_becomes_176 rfl ?_
  refine aw_bipush (npc := 179) (v := 14) (by decide) dX0_becomes_177 rfl ?_
  refine aw_icmp_ge (npc := 182) (tgt := 200) dX0_becomes_179 rfl (by decide) (fun hc => absurd hc (by decide)) (fun _ => ?_)
  refine aw_aload_n (npc := 183) rfl dX0_becomes_182 rfl ?_
  refine aw_get (npc := 186) dX0_becomes_183 rfl kf_X0_60 (am_ne (by decide) (am_ne (by decide) (am_ne (by decide) (am_ne (by decide) (am_ne (by decide) (am_ne (by decide) am_eq)))))) rfl ?_
  refine aw_iload_n (npc := 187) rfl dX0_becomes_186 rfl ?_
  refine aw_aload_n (npc := 188) rfl dX0_becomes_187 rfl ?_
  refine aw_get (npc := 191) dX0_becomes_188 rfl kf_X0_60 (am_ne (by decide) (am_ne (by decide) (am_ne (by decide) (am_ne (by decide) (am_ne (by decide) (am_ne (by decide) (am_ne (by decide) (am_ne (by decide) (am_ne (by decide) (am_ne (by decide) f1)))))))))) rfl ?_
  refine aw_iload_n (npc := 192) rfl dX0_becomes_191 rfl ?_
  refine aw_aald (npc := 193) (j := 12) dX0_becomes_192 rfl (by decide) (am_ne (by decide) (am_ne (by decide) (am_ne (by decide) (am_ne (by decide) (am_ne (by decide) (am_ne (by decide) (am_ne (by decide) (am_ne (by decide) (am_ne (by decide) (am_ne (by decide) f10)))))))))) ⟨by decide, by decide⟩ rfl ?_
  refine aw_aastN (npc := 194) (j := 12) dX0_becomes_193 rfl (by decide) am_eq ⟨by decide, by decide⟩ (by decide) am_uu ?_
  refine aw_iinc (npc := 197) (v := 13) (L' := [some (.ref 13), some (.ref 1), some (.int 13)]) dX0_becomes_194 rfl rfl (by decide) (by decide) rfl rfl ?_
  refine aw_goto (npc := 176) dX0_becomes_197 (by decide) ?_
  refine aw_iload_n (npc := 177) rfl dX0_becomes_176 rfl ?_
  refine aw_bipush (npc := 179) (v := 14) (by decide) dX0_becomes_177 rfl ?_
  refine aw_icmp_ge (npc := 182) (tgt := 200) dX0_becomes_179 rfl (by decide) (fun hc => absurd hc (by decide)) (fun _ => ?_)
  refine aw_aload_n (npc := 183) rfl dX0_becomes_182 rfl ?_
  refine aw_get (npc := 186) dX0_becomes_183 rfl kf_X0_60 (am_ne (by decide) (am_ne (by decide) (am_ne (by decide) (am_ne (by decide) (am_ne (by decide) (am_ne (by decide) am_eq)))))) rfl ?_
  refine aw_iload_n (npc := 187) rfl dX0_becomes_186 rfl ?_
  refine aw_aload_n (npc := 188) rfl dX0_becomes_187 rfl ?_
  refine aw_get (npc := 191) dX0_becomes_188 rfl kf_X0_60 (am_ne (by decide) (am_ne (by decide) (am_ne (by decide) (am_ne (by decide) (am_ne (by decide) (am_ne (by decide) (am_ne (by decide) (am_ne (by decide) (am_ne (by decide) (am_ne (by decide) f1)))))))))) rfl ?_
  refine aw_iload_n (npc := 192) rfl dX0_becomes_191 rfl ?_
  refine aw_aald (npc := 193) (j := 13) dX0_becomes_192 rfl (by decide) (am_ne (by decide) (am_ne (by decide) (am_ne (by decide) (am_ne (by decide) (am_ne (by decide) (am_ne (by decide) (am_ne (by decide) (am_ne (by decide) (am_ne (by decide) (am_ne (by decide) f10)))))))))) ⟨by decide, by decide⟩ rfl ?_
  refine aw_aastN (npc := 194) (j := 13) dX0_becomes_193 rfl (by decide) am_eq ⟨by decide, by decide⟩ (by decide) am_uu ?_
  refine aw_iinc (npc := 197) (v := 14) (L' := [some (.ref 13), some (.ref 1), some (.int 14)]) dX0_becomes_194 rfl rfl (by decide) (by decide) rfl rfl ?_
  refine aw_goto (npc := 176) dX0_becomes_197 (by decide) ?_
  refine aw_iload_n (npc := 177) rfl dX0_becomes_176 rfl ?_
  refine aw_bipush (npc := 179) (v := 14) (by decide) dX0_becomes_177 rfl ?_
  refine aw_icmp_ge (npc := 182) (tgt := 200) dX0_becomes_179 rfl (by decide) (fun _ => ?_) (fun hc => absurd (by decide) hc)
  refine aw_aload_n (npc := 201) rfl dX0_becomes_200 rfl ?_
  refine aw_aload_n (npc := 202) rfl dX0_becomes_201 rfl ?_
  refine aw_get (npc := 205) dX0_becomes_202 rfl kf_X0_64 (am_ne (by decide) (am_ne (by decide) (am_ne (by decide) (am_ne (by decide) (am_ne (by decide) (am_ne (by decide) (am_ne (by decide) (am_ne (by decide) (am_ne (by decide) (am_ne (by decide) f1)))))))))) rfl ?_
  refine aw_put (npc := 208) dX0_becomes_205 rfl kf_X0_64 (am_ne (by decide) (am_ne (by decide) (am_ne (by decide) (am_ne (by decide) (am_ne (by decide) (am_ne (by decide) am_eq)))))) (Nat.le_of_ble_eq_true rfl) (am_ok_int _) rfl ?_
  refine aw_aload_n (npc := 209) rfl dX0_becomes_208 rfl ?_
  refine aw_get (npc := 212) dX0_becomes_209 rfl kf_X0_67 (am_ne (by decide) (am_ne (by decide) (am_ne (by decide) (am_ne (by decide) (am_ne (by decide) (am_ne (by decide) (am_ne (by decide) (am_ne (by decide) (am_ne (by decide) (am_ne (by decide) (am_ne (by decide) f1))))))))))) rfl ?_
  refine aw_iconst (npc := 213) (v := 0) (by decide) dX0_becomes_212 rfl ?_
  refine aw_aload_n (npc := 214) rfl dX0_becomes_213 rfl ?_
  refine aw_get (npc := 217) dX0_becomes_214 rfl kf_X0_67 am_eq rfl ?_
  refine aw_iconst (npc := 218) (v := 0) (by decide) dX0_becomes_217 rfl ?_
  refine aw_iconst (npc := 219) (v := 3) (by decide) dX0_becomes_218 rfl ?_
  refine aw_copyi (npc := 222) (sp := 0) (dp := 0) (mm := 3) dX0_becomes_219 rfl kac_X0_73 kac_x (am_ne (by decide) (am_ne (by decide) (am_ne (by decide) (am_ne (by decide) (am_ne (by decide) (am_ne (by decide) (am_ne (by decide) (am_ne (by decide) (am_ne (by decide) (am_ne (by decide) (am_ne (by decide) f11))))))))))) (am_ne (by decide) (am_ne (by decide) (am_ne (by decide) (am_ne (by decide) (am_ne (by decide) (am_ne (by decide) (am_ne (by decide) (am_ne (by decide) (am_ne (by decide) (am_ne (by decide) (am_ne (by decide) g23))))))))))) ⟨by decide, by decide⟩ ⟨by decide, by decide⟩ ⟨by decide, by decide⟩ (Nat.le_of_ble_eq_true rfl) (Nat.le_of_ble_eq_true rfl) (Nat.le_of_ble_eq_true rfl) (show _ = am_up _ 23 (.inl (0, [(-1), (-1), (-1)])) from rfl) ?_
  refine aw_vret rfl dX0_becomes_222 ?_
  exact hq _ ⟨(am_ne (by decide) am_eq), (am_ne (by decide) (am_ne (by decide) (am_ne (by decide) (am_ne (by decide) (am_ne (by decide) (am_ne (by decide) (am_ne (by decide) (am_ne (by decide) (am_ne (by decide) (am_ne (by decide) (am_ne (by decide) am_eq))))))))))), (am_ne (by decide) (am_ne (by decide) (am_ne (by decide) (am_ne (by decide) (am_ne (by decide) (am_ne (by decide) (am_ne (by decide) (am_ne (by decide) (am_ne (by decide) (am_ne (by decide) am_eq)))))))))), (am_ne (by decide) (am_ne (by decide) (am_ne (by decide) (am_ne (by decide) (am_ne (by decide) (am_ne (by decide) (am_ne (by decide) (am_ne (by decide) (am_ne (by decide) am_eq))))))))), (am_ne (by decide) (am_ne (by decide) (am_ne (by decide) (am_ne (by decide) (am_ne (by decide) (am_ne (by decide) (am_ne (by decide) am_eq))))))), (am_ne (by decide) (am_ne (by decide) (am_ne (by decide) (am_ne (by decide) (am_ne (by decide) (am_ne (by decide) am_eq)))))), (am_ne (by decide) (am_ne (by decide) (am_ne (by decide) (am_ne (by decide) (am_ne (by decide) am_eq))))), (am_ne (by decide) (am_ne (by decide) (am_ne (by decide) (am_ne (by decide) am_eq)))), (am_ne (by decide) (am_ne (by decide) (am_ne (by decide) am_eq))), (am_ne (by decide) (am_ne (by decide) am_eq)), am_eq, (am_ne (by decide) (am_ne (by decide) (am_ne (by decide) (am_ne (by decide) (am_ne (by decide) (am_ne (by decide) (am_ne (by decide) (am_ne (by decide) (am_ne (by decide) (am_ne (by decide) (am_ne (by decide) (am_ne (by decide) g24))))))))))))⟩ (am_fbU (by decide) (am_fbU (by decide) (am_fbU (by decide) (am_fbU (by decide) (am_fbU (by decide) (am_fbU (by decide) (am_fbU (by decide) (am_fbU (by decide) (am_fbU (by decide) (am_fbU (by decide) (am_fbU (by decide) (am_fbU (by decide) am_fb0))))))))))))
set_option maxHeartbeats 40000000 in
set_option maxRecDepth 100000 in
theorem p_bec_25 {X : List Int32} {d rc rs nn : Nat} {Q : am_Q} {hv pt hv2 pt2 : Int32} {h : am_H} (F : fq1 hv pt h) (G : fq25 hv2 pt2 h) (hq : ∀ h9, fq25 hv pt h9 → am_fb 25 37 h9 h → Q none nn h9) : AW X mX0_becomes (d + 4) rc rs 0 [some (.ref 25), some (.ref 1), none] [] nn h Q := by
  obtain ⟨f1, f2, f3, f4, f5, f6, f7, f8, f9, f10, f11, f12⟩ := F
  obtain ⟨g25, g26, g27, g28, g29, g30, g31, g32, g33, g34, g35, g36⟩ := G
  refine aw_aload_n (npc := 1) rfl dX0_becomes_0 rfl ?_
  refine aw_get (npc := 4) dX0_becomes_1 rfl kf_X0_9 f1 rfl ?_
  refine aw_iconst (npc := 5) (v := 0) (by decide) dX0_becomes_4 rfl ?_
  refine aw_aload_n (npc := 6) rfl dX0_becomes_5 rfl ?_
  refine aw_get (npc := 9) dX0_becomes_6 rfl kf_X0_9 g25 rfl ?_
  refine aw_iconst (npc := 10) (v := 0) (by decide) dX0_becomes_9 rfl ?_
  refine aw_iconst (npc := 11) (v := 4) (by decide) dX0_becomes_10 rfl ?_
  refine aw_copyi (npc := 14) (sp := 0) (dp := 0) (mm := 4) dX0_becomes_11 rfl kac_X0_73 kac_x f2 g26 ⟨by decide, by decide⟩ ⟨by decide, by decide⟩ ⟨by decide, by decide⟩ (Nat.le_of_ble_eq_true rfl) (Nat.le_of_ble_eq_true rfl) (Nat.le_of_ble_eq_true rfl) (show _ = am_up _ 26 (.inl (0, [5, 5, 5, 5])) from rfl) ?_
  refine aw_aload_n (npc := 15) rfl dX0_becomes_14 rfl ?_
  refine aw_get (npc := 18) dX0_becomes_15 rfl kf_X0_15 (am_ne (by decide) f1) rfl ?_
  refine aw_iconst (npc := 19) (v := 0) (by decide) dX0_becomes_18 rfl ?_
  refine aw_aload_n (npc := 20) rfl dX0_becomes_19 rfl ?_
  refine aw_get (npc := 23) dX0_becomes_20 rfl kf_X0_15 (am_ne (by decide) g25) rfl ?_
  refine aw_iconst (npc := 24) (v := 0) (by decide) dX0_becomes_23 rfl ?_
  refine aw_bipush (npc := 26) (v := 8) (by decide) dX0_becomes_24 rfl ?_
  refine aw_copyi (npc := 29) (sp := 0) (dp := 0) (mm := 8) dX0_becomes_26 rfl kac_X0_73 kac_x (am_ne (by decide) f3) (am_ne (by decide) g27) ⟨by decide, by decide⟩ ⟨by decide, by decide⟩ ⟨by decide, by decide⟩ (Nat.le_of_ble_eq_true rfl) (Nat.le_of_ble_eq_true rfl) (Nat.le_of_ble_eq_true rfl) (show _ = am_up _ 27 (.inl (0, [1, 1, 1, 1, 1, 1, 1, 1])) from rfl) ?_
  refine aw_aload_n (npc := 30) rfl dX0_becomes_29 rfl ?_
  refine aw_get (npc := 33) dX0_becomes_30 rfl kf_X0_18 (am_ne (by decide) (am_ne (by decide) f1)) rfl ?_
  refine aw_iconst (npc := 34) (v := 0) (by decide) dX0_becomes_33 rfl ?_
  refine aw_aload_n (npc := 35) rfl dX0_becomes_34 rfl ?_
  refine aw_get (npc := 38) dX0_becomes_35 rfl kf_X0_18 (am_ne (by decide) (am_ne (by decide) g25)) rfl ?_
  refine aw_iconst (npc := 39) (v := 0) (by decide) dX0_becomes_38 rfl ?_
  refine aw_iconst (npc := 40) (v := 2) (by decide) dX0_becomes_39 rfl ?_
  refine aw_copyi (npc := 43) (sp := 0) (dp := 0) (mm := 2) dX0_becomes_40 rfl kac_X0_73 kac_x (am_ne (by decide) (am_ne (by decide) f4)) (am_ne (by decide) (am_ne (by decide) g28)) ⟨by decide, by decide⟩ ⟨by decide, by decide⟩ ⟨by decide, by decide⟩ (Nat.le_of_ble_eq_true rfl) (Nat.le_of_ble_eq_true rfl) (Nat.le_of_ble_eq_true rfl) (show _ = am_up _ 28 (.inl (0, [20, 20])) from rfl) ?_
  refine aw_aload_n (npc := 44) rfl dX0_becomes_43 rfl ?_
  refine aw_aload_n (npc := 45) rfl dX0_becomes_44 rfl ?_
  refine aw_get (npc := 48) dX0_becomes_45 rfl kf_X0_21 (am_ne (by decide) (am_ne (by decide) (am_ne (by decide) f1))) rfl ?_
  refine aw_put (npc := 51) dX0_becomes_48 rfl kf_X0_21 (am_ne (by decide) (am_ne (by decide) (am_ne (by decide) g25))) (Nat.le_of_ble_eq_true rfl) (am_ok_int _) rfl ?_
  refine aw_aload_n (npc := 52) rfl dX0_becomes_51 rfl ?_
  refine aw_aload_n (npc := 53) rfl dX0_becomes_52 rfl ?_
  refine aw_get (npc := 56) dX0_becomes_53 rfl kf_X0_25 (am_ne (by decide) (am_ne (by decide) (am_ne (by decide) (am_ne (by decide) f1)))) rfl ?_
  refine aw_put (npc := 59) dX0_becomes_56 rfl kf_X0_25 am_eq (Nat.le_of_ble_eq_true rfl) (am_ok_int _) am_uu ?_
  refine aw_aload_n (npc := 60) rfl dX0_becomes_59 rfl ?_
  refine aw_aload_n (npc := 61) rfl dX0_becomes_60 rfl ?_
  refine aw_get (npc := 64) dX0_becomes_61 rfl kf_X0_28 (am_ne (by decide) (am_ne (by decide) (am_ne (by decide) (am_ne (by decide) f1)))) rfl ?_
  refine aw_put (npc := 67) dX0_becomes_64 rfl kf_X0_28 am_eq (Nat.le_of_ble_eq_true rfl) (am_ok_int _) am_uu ?_
  refine aw_aload_n (npc := 68) rfl dX0_becomes_67 rfl ?_
  refine aw_aload_n (npc := 69) rfl dX0_becomes_68 rfl ?_
  refine aw_get (npc := 72) dX0_becomes_69 rfl kf_X0_31 (am_ne (by decide) (am_ne (by decide) (am_ne (by decide) (am_ne (by decide) f1)))) rfl ?_
  refine aw_put (npc := 75) dX0_becomes_72 rfl kf_X0_31 am_eq (Nat.le_of_ble_eq_true rfl) (am_ok_int _) am_uu ?_
  refine aw_aload_n (npc := 76) rfl dX0_becomes_75 rfl ?_
  refine aw_aload_n (npc := 77) rfl dX0_becomes_76 rfl ?_
  refine aw_get (npc := 80) dX0_becomes_77 rfl kf_X0_34 (am_ne (by decide) (am_ne (by decide) (am_ne (by decide) (am_ne (by decide) f1)))) rfl ?_
  refine aw_put (npc := 83) dX0_becomes_80 rfl kf_X0_34 am_eq (Nat.le_of_ble_eq_true rfl) (am_ok_int _) am_uu ?_
  refine aw_aload_n (npc := 84) rfl dX0_becomes_83 rfl ?_
  refine aw_aload_n (npc := 85) rfl dX0_becomes_84 rfl ?_
  refine aw_get (npc := 88) dX0_becomes_85 rfl kf_X0_37 (am_ne (by decide) (am_ne (by decide) (am_ne (by decide) (am_ne (by decide) f1)))) rfl ?_
  refine aw_put (npc := 91) dX0_becomes_88 rfl kf_X0_37 am_eq (Nat.le_of_ble_eq_true rfl) (am_ok_int _) am_uu ?_
  refine aw_aload_n (npc := 92) rfl dX0_becomes_91 rfl ?_
  refine aw_aload_n (npc := 93) rfl dX0_becomes_92 rfl ?_
  refine aw_get (npc := 96) dX0_becomes_93 rfl kf_X0_40 (am_ne (by decide) (am_ne (by decide) (am_ne (by decide) (am_ne (by decide) f1)))) rfl ?_
  refine aw_put (npc := 99) dX0_becomes_96 rfl kf_X0_40 am_eq (Nat.le_of_ble_eq_true rfl) (am_ok_int _) am_uu ?_
  refine aw_aload_n (npc := 100) rfl dX0_becomes_99 rfl ?_
  refine aw_get (npc := 103) dX0_becomes_100 rfl kf_X0_43 (am_ne (by decide) (am_ne (by decide) (am_ne (by decide) (am_ne (by decide) f1)))) rfl ?_
  refine aw_iconst (npc := 104) (v := 0) (by decide) dX0_becomes_103 rfl ?_
  refine aw_aload_n (npc := 105) rfl dX0_becomes_104 rfl ?_
  refine aw_get (npc := 108) dX0_becomes_105 rfl kf_X0_43 am_eq rfl ?_
  refine aw_iconst (npc := 109) (v := 0) (by decide) dX0_becomes_108 rfl ?_
  refine aw_bipush (npc := 111) (v := 8) (by decide) dX0_becomes_109 rfl ?_
  refine aw_copyi (npc := 114) (sp := 0) (dp := 0) (mm := 8) dX0_becomes_111 rfl kac_X0_73 kac_x (am_ne (by decide) (am_ne (by decide) (am_ne (by decide) (am_ne (by decide) f5)))) (am_ne (by decide) (am_ne (by decide) (am_ne (by decide) (am_ne (by decide) g29)))) ⟨by decide, by decide⟩ ⟨by decide, by decide⟩ ⟨by decide, by decide⟩ (Nat.le_of_ble_eq_true rfl) (Nat.le_of_ble_eq_true rfl) (Nat.le_of_ble_eq_true rfl) (show _ = am_up _ 29 (.inl (0, [0, 0, 0, 0, 0, 0, 0, 0])) from rfl) ?_
  refine aw_aload_n (npc := 115) rfl dX0_becomes_114 rfl ?_
  refine aw_get (npc := 118) dX0_becomes_115 rfl kf_X0_46 (am_ne (by decide) (am_ne (by decide) (am_ne (by decide) (am_ne (by decide) (am_ne (by decide) f1))))) rfl ?_
  refine aw_iconst (npc := 119) (v := 0) (by decide) dX0_becomes_118 rfl ?_
  refine aw_aload_n (npc := 120) rfl dX0_becomes_119 rfl ?_
  refine aw_get (npc := 123) dX0_becomes_120 rfl kf_X0_46 (am_ne (by decide) am_eq) rfl ?_
  refine aw_iconst (npc := 124) (v := 0) (by decide) dX0_becomes_123 rfl ?_
  refine aw_bipush (npc := 126) (v := 8) (by decide) dX0_becomes_124 rfl ?_
  refine aw_copyi (npc := 129) (sp := 0) (dp := 0) (mm := 8) dX0_becomes_126 rfl kac_X0_73 kac_x (am_ne (by decide) (am_ne (by decide) (am_ne (by decide) (am_ne (by decide) (am_ne (by decide) f6))))) (am_ne (by decide) (am_ne (by decide) (am_ne (by decide) (am_ne (by decide) (am_ne (by decide) g30))))) ⟨by decide, by decide⟩ ⟨by decide, by decide⟩ ⟨by decide, by decide⟩ (Nat.le_of_ble_eq_true rfl) (Nat.le_of_ble_eq_true rfl) (Nat.le_of_ble_eq_true rfl) (show _ = am_up _ 30 (.inl (0, [0, 0, 0, 0, 0, 0, 0, 0])) from rfl) ?_
  refine aw_aload_n (npc := 130) rfl dX0_becomes_129 rfl ?_
  refine aw_get (npc := 133) dX0_becomes_130 rfl kf_X0_49 (am_ne (by decide) (am_ne (by decide) (am_ne (by decide) (am_ne (by decide) (am_ne (by decide) (am_ne (by decide) f1)))))) rfl ?_
  refine aw_iconst (npc := 134) (v := 0) (by decide) dX0_becomes_133 rfl ?_
  refine aw_aload_n (npc := 135) rfl dX0_becomes_134 rfl ?_
  refine aw_get (npc := 138) dX0_becomes_135 rfl kf_X0_49 (am_ne (by decide) (am_ne (by decide) am_eq)) rfl ?_
  refine aw_iconst (npc := 139) (v := 0) (by decide) dX0_becomes_138 rfl ?_
  refine aw_bipush (npc := 141) (v := 8) (by decide) dX0_becomes_139 rfl ?_
  refine aw_copyi (npc := 144) (sp := 0) (dp := 0) (mm := 8) dX0_becomes_141 rfl kac_X0_73 kac_x (am_ne (by decide) (am_ne (by decide) (am_ne (by decide) (am_ne (by decide) (am_ne (by decide) (am_ne (by decide) f7)))))) (am_ne (by decide) (am_ne (by decide) (am_ne (by decide) (am_ne (by decide) (am_ne (by decide) (am_ne (by decide) g31)))))) ⟨by decide, by decide⟩ ⟨by decide, by decide⟩ ⟨by decide, by decide⟩ (Nat.le_of_ble_eq_true rfl) (Nat.le_of_ble_eq_true rfl) (Nat.le_of_ble_eq_true rfl) (show _ = am_up _ 31 (.inl (0, [0, 0, 0, 0, 0, 0, 0, 0])) from rfl) ?_
  refine aw_aload_n (npc := 145) rfl dX0_becomes_144 rfl ?_
  refine aw_get (npc := 148) dX0_becomes_145 rfl kf_X0_52 (am_ne (by decide) (am_ne (by decide) (am_ne (by decide) (am_ne (by decide) (am_ne (by decide) (am_ne (by decide) (am_ne (by decide) f1))))))) rfl ?_
  refine aw_iconst (npc := 149) (v := 0) (by decide) dX0_becomes_148 rfl ?_
  refine aw_aload_n (npc := 150) rfl dX0_becomes_149 rfl ?_
  refine aw_get (npc := 153) dX0_becomes_150 rfl kf_X0_52 (am_ne (by decide) (am_ne (by decide) (am_ne (by decide) am_eq))) rfl ?_
  refine aw_iconst (npc := 154) (v := 0) (by decide) dX0_becomes_153 rfl ?_
  refine aw_bipush (npc := 156) (v := 8) (by decide) dX0_becomes_154 rfl ?_
  refine aw_copyi (npc := 159) (sp := 0) (dp := 0) (mm := 8) dX0_becomes_156 rfl kac_X0_73 kac_x (am_ne (by decide) (am_ne (by decide) (am_ne (by decide) (am_ne (by decide) (am_ne (by decide) (am_ne (by decide) (am_ne (by decide) f8))))))) (am_ne (by decide) (am_ne (by decide) (am_ne (by decide) (am_ne (by decide) (am_ne (by decide) (am_ne (by decide) (am_ne (by decide) g32))))))) ⟨by decide, by decide⟩ ⟨by decide, by decide⟩ ⟨by decide, by decide⟩ (Nat.le_of_ble_eq_true rfl) (Nat.le_of_ble_eq_true rfl) (Nat.le_of_ble_eq_true rfl) (show _ = am_up _ 32 (.inl (0, [0, 0, 0, 0, 0, 0, 0, 0])) from rfl) ?_
  refine aw_aload_n (npc := 160) rfl dX0_becomes_159 rfl ?_
  refine aw_get (npc := 163) dX0_becomes_160 rfl kf_X0_55 (am_ne (by decide) (am_ne (by decide) (am_ne (by decide) (am_ne (by decide) (am_ne (by decide) (am_ne (by decide) (am_ne (by decide) (am_ne (by decide) f1)))))))) rfl ?_
  refine aw_iconst (npc := 164) (v := 0) (by decide) dX0_becomes_163 rfl ?_
  refine aw_aload_n (npc := 165) rfl dX0_becomes_164 rfl ?_
  refine aw_get (npc := 168) dX0_becomes_165 rfl kf_X0_55 (am_ne (by decide) (am_ne (by decide) (am_ne (by decide) (am_ne (by decide) am_eq)))) rfl ?_
  refine aw_iconst (npc := 169) (v := 0) (by decide) dX0_becomes_168 rfl ?_
  refine aw_bipush (npc := 171) (v := 8) (by decide) dX0_becomes_169 rfl ?_
  refine aw_copyi (npc := 174) (sp := 0) (dp := 0) (mm := 8) dX0_becomes_171 rfl kac_X0_73 kac_x (am_ne (by decide) (am_ne (by decide) (am_ne (by decide) (am_ne (by decide) (am_ne (by decide) (am_ne (by decide) (am_ne (by decide) (am_ne (by decide) f9)))))))) (am_ne (by decide) (am_ne (by decide) (am_ne (by decide) (am_ne (by decide) (am_ne (by decide) (am_ne (by decide) (am_ne (by decide) (am_ne (by decide) g33)))))))) ⟨by decide, by decide⟩ ⟨by decide, by decide⟩ ⟨by decide, by decide⟩ (Nat.le_of_ble_eq_true rfl) (Nat.le_of_ble_eq_true rfl) (Nat.le_of_ble_eq_true rfl) (show _ = am_up _ 33 (.inl (0, [0, 0, 0, 0, 0, 0, 0, 0])) from rfl) ?_
  refine aw_iconst (npc := 175) (v := 0) (by decide) dX0_becomes_174 rfl ?_
  refine aw_istore_n (npc := 176) (L' := [some (.ref 25), some (.ref 1), some (.int 0)]) dX0_becomes_175 rfl (by decide) rfl rfl ?_
  refine aw_iload_n (npc := 177) rfl dX0_becomes_176 rfl ?_
  refine aw_bipush (npc := 179) (v := 14) (by decide) dX0_becomes_177 rfl ?_
  refine aw_icmp_ge (npc := 182) (tgt := 200) dX0_becomes_179 rfl (by decide) (fun hc => absurd hc (by decide)) (fun _ => ?_)
  refine aw_aload_n (npc := 183) rfl dX0_becomes_182 rfl ?_
  refine aw_get (npc := 186) dX0_becomes_183 rfl kf_X0_60 (am_ne (by decide) (am_ne (by decide) (am_ne (by decide) (am_ne (by decide) (am_ne (by decide) am_eq))))) rfl ?_
  refine aw_iload_n (npc := 187) rfl dX0_becomes_186 rfl ?_
  refine aw_aload_n (npc := 188) rfl dX0_becomes_187 rfl ?_
  refine aw_get (npc := 191) dX0_becomes_188 rfl kf_X0_60 (am_ne (by decide) (am_ne (by decide) (am_ne (by decide) (am_ne (by decide) (am_ne (by decide) (am_ne (by decide) (am_ne (by decide) (am_ne (by decide) (am_ne (by decide) f1))))))))) rfl ?_
  refine aw_iload_n (npc := 192) rfl dX0_becomes_191 rfl ?_
  refine aw_aald (npc := 193) (j := 0) dX0_becomes_192 rfl (by decide) (am_ne (by decide) (am_ne (by decide) (am_ne (by decide) (am_ne (by decide) (am_ne (by decide) (am_ne (by decide) (am_ne (by decide) (am_ne (by decide) (am_ne (by decide) f10))))))))) ⟨by decide, by decide⟩ rfl ?_
  refine aw_aastN (npc := 194) (j := 0) dX0_becomes_193 rfl (by decide) (am_ne (by decide) (am_ne (by decide) (am_ne (by decide) (am_ne (by decide) (am_ne (by decide) (am_ne (by decide) (am_ne (by decide) (am_ne (by decide) (am_ne (by decide) g34))))))))) ⟨by decide, by decide⟩ (by decide) rfl ?_
  refine aw_iinc (npc := 197) (v := 1) (L' := [some (.ref 25), some (.ref 1), some (.int 1)]) dX0_becomes_194 rfl rfl (by decide) (by decide) rfl rfl ?_
  refine aw_goto (npc := 176) dX0_becomes_197 (by decide) ?_
  refine aw_iload_n (npc := 177) rfl dX0_becomes_176 rfl ?_
  refine aw_bipush (npc := 179) (v := 14) (by decide) dX0_becomes_177 rfl ?_
  refine aw_icmp_ge (npc := 182) (tgt := 200) dX0_becomes_179 rfl (by decide) (fun hc => absurd hc (by decide)) (fun _ => ?_)
  refine aw_aload_n (npc := 183) rfl dX0_becomes_182 rfl ?_
  refine aw_get (npc := 186) dX0_becomes_183 rfl kf_X0_60 (am_ne (by decide) (am_ne (by decide) (am_ne (by decide) (am_ne (by decide) (am_ne (by decide) (am_ne (by decide) am_eq)))))) rfl ?_
  refine aw_iload_n (npc := 187) rfl dX0_becomes_186 rfl ?_
  refine aw_aload_n (npc := 188) rfl dX0_becomes_187 rfl ?_
  refine aw_get (npc := 191) dX0_becomes_188 rfl kf_X0_60 (am_ne (by decide) (am_ne (by decide) (am_ne (by decide) (am_ne (by decide) (am_ne (by decide) (am_ne (by decide) (am_ne (by decide) (am_ne (by decide) (am_ne (by decide) (am_ne (by decide) f1)))))))))) rfl ?_
  refine aw_iload_n (npc := 192) rfl dX0_becomes_191 rfl ?_
  refine aw_aald (npc := 193) (j := 1) dX0_becomes_192 rfl (by decide) (am_ne (by decide) (am_ne (by decide) (am_ne (by decide) (am_ne (by decide) (am_ne (by decide) (am_ne (by decide) (am_ne (by decide) (am_ne (by decide) (am_ne (by decide) (am_ne (by decide) f10)))))))))) ⟨by decide, by decide⟩ rfl ?_
  refine aw_aastN (npc := 194) (j := 1) dX0_becomes_193 rfl (by decide) am_eq ⟨by decide, by decide⟩ (by decide) am_uu ?_
  refine aw_iinc (npc := 197) (v := 2) (L' := [some (.ref 25), some (.ref 1), some (.int 2)]) dX0_becomes_194 rfl rfl (by decide) (by decide) rfl rfl ?_
  refine aw_goto (npc := 176) dX0_becomes_197 (by decide) ?_
  refine aw_iload_n (npc := 177) rfl dX0_becomes_176 rfl ?_
  refine aw_bipush (npc := 179) (v := 14) (by decide) dX0_becomes_177 rfl ?_
  refine aw_icmp_ge (npc := 182) (tgt := 200) dX0_becomes_179 rfl (by decide) (fun hc => absurd hc (by decide)) (fun _ => ?_)
  refine aw_aload_n (npc := 183) rfl dX0_becomes_182 rfl ?_
  refine aw_get (npc := 186) dX0_becomes_183 rfl kf_X0_60 (am_ne (by decide) (am_ne (by decide) (am_ne (by decide) (am_ne (by decide) (am_ne (by decide) (am_ne (by decide) am_eq)))))) rfl ?_
  refine aw_iload_n (npc := 187) rfl dX0_becomes_186 rfl ?_
  refine aw_aload_n (npc := 188) rfl dX0_becomes_187 rfl ?_
  refine aw_get (npc := 191) dX0_becomes_188 rfl kf_X0_60 (am_ne (by decide) (am_ne (by decide) (am_ne (by decide) (am_ne (by decide) (am_ne (by decide) (am_ne (by decide) (am_ne (by decide) (am_ne (by decide) (am_ne (by decide) (am_ne (by decide) f1)))))))))) rfl ?_
  refine aw_iload_n (npc := 192) rfl dX0_becomes_191 rfl ?_
  refine aw_aald (npc := 193) (j := 2) dX0_becomes_192 rfl (by decide) (am_ne (by decide) (am_ne (by decide) (am_ne (by decide) (am_ne (by decide) (am_ne (by decide) (am_ne (by decide) (am_ne (by decide) (am_ne (by decide) (am_ne (by decide) (am_ne (by decide) f10)))))))))) ⟨by decide, by decide⟩ rfl ?_
  refine aw_aastN (npc := 194) (j := 2) dX0_becomes_193 rfl (by decide) am_eq ⟨by decide, by decide⟩ (by decide) am_uu ?_
  refine aw_iinc (npc := 197) (v := 3) (L' := [some (.ref 25), some (.ref 1), some (.int 3)]) dX0_becomes_194 rfl rfl (by decide) (by decide) rfl rfl ?_
  refine aw_goto (npc := 176) dX0_becomes_197 (by decide) ?_
  refine aw_iload_n (npc := 177) rfl dX0_becomes_176 rfl ?_
  refine aw_bipush (npc := 179) (v := 14) (by decide) dX0_becomes_177 rfl ?_
  refine aw_icmp_ge (npc := 182) (tgt := 200) dX0_becomes_179 rfl (by decide) (fun hc => absurd hc (by decide)) (fun _ => ?_)
  refine aw_aload_n (npc := 183) rfl dX0_becomes_182 rfl ?_
  refine aw_get (npc := 186) dX0_becomes_183 rfl kf_X0_60 (am_ne (by decide) (am_ne (by decide) (am_ne (by decide) (am_ne (by decide) (am_ne (by decide) (am_ne (by decide) am_eq)))))) rfl ?_
  refine aw_iload_n (npc := 187) rfl dX0_becomes_186 rfl ?_
  refine aw_aload_n (npc := 188) rfl dX0_becomes_187 rfl ?_
  refine aw_get (npc := 191) dX0_becomes_188 rfl kf_X0_60 (am_ne (by decide) (am_ne (by decide) (am_ne (by decide) (am_ne (by decide) (am_ne (by decide) (am_ne (by decide) (am_ne (by decide) (am_ne (by decide) (am_ne (by decide) (am_ne (by decide) f1)))))))))) rfl ?_
  refine aw_iload_n (npc := 192) rfl dX0_becomes_191 rfl ?_
  refine aw_aald (npc := 193) (j := 3) dX0_becomes_192 rfl (by decide) (am_ne (by decide) (am_ne (by decide) (am_ne (by decide) (am_ne (by decide) (am_ne (by decide) (am_ne (by decide) (am_ne (by decide) (am_ne (by decide) (am_ne (by decide) (am_ne (by decide) f10)))))))))) ⟨by decide, by decide⟩ rfl ?_
  refine aw_aastN (npc := 194) (j := 3) dX0_becomes_193 rfl (by decide) am_eq ⟨by decide, by decide⟩ (by decide) am_uu ?_
  refine aw_iinc (npc := 197) (v := 4) (L' := [some (.ref 25), some (.ref 1), some (.int 4)]) dX0_becomes_194 rfl rfl (by decide) (by decide) rfl rfl ?_
  refine aw_goto (npc := 176) dX0_becomes_197 (by decide) ?_
  refine aw_iload_n (npc := 177) rfl dX0_becomes_176 rfl ?_
  refine aw_bipush (npc := 179) (v := 14) (by decide) dX0_becomes_177 rfl ?_
  refine aw_icmp_ge (npc := 182) (tgt := 200) dX0_becomes_179 rfl (by decide) (fun hc => absurd hc (by decide)) (fun _ => ?_)
  refine aw_aload_n (npc := 183) rfl dX0_becomes_182 rfl ?_
  refine aw_get (npc := 186) dX0_becomes_183 rfl kf_X0_60 (am_ne (by decide) (am_ne (by decide) (am_ne (by decide) (am_ne (by decide) (am_ne (by decide) (am_ne (by decide) am_eq)))))) rfl ?_
  refine aw_iload_n (npc := 187) rfl dX0_becomes_186 rfl ?_
  refine aw_aload_n (npc := 188) rfl dX0_becomes_187 rfl ?_
  refine aw_get (npc := 191) dX0_becomes_188 rfl kf_X0_60 (am_ne (by decide) (am_ne (by decide) (am_ne (by decide) (am_ne (by decide) (am_ne (by decide) (am_ne (by decide) (am_ne (by decide) (am_ne (by decide) (am_ne (by decide) (am_ne (by decide) f1)))))))))) rfl ?_
  refine aw_iload_n (npc := 192) rfl dX0_becomes_191 rfl ?_
  refine aw_aald (npc := 193) (j := 4) dX0_becomes_192 rfl (by decide) (am_ne (by decide) (am_ne (by decide) (am_ne (by decide) (am_ne (by decide) (am_ne (by decide) (am_ne (by decide) (am_ne (by decide) (am_ne (by decide) (am_ne (by decide) (am_ne (by decide) f10)))))))))) ⟨by decide, by decide⟩ rfl ?_
  refine aw_aastN (npc := 194) (j := 4) dX0_becomes_193 rfl (by decide) am_eq ⟨by decide, by decide⟩ (by decide) am_uu ?_
  refine aw_iinc (npc := 197) (v := 5) (L' := [some (.ref 25), some (.ref 1), some (.int 5)]) dX0_becomes_194 rfl rfl (by decide) (by decide) rfl rfl ?_
  refine aw_goto (npc := 176) dX0_becomes_197 (by decide) ?_
  refine aw_iload_n (npc := 177) rfl dX0_becomes_176 rfl ?_
  refine aw_bipush (npc := 179) (v := 14) (by decide) dX0_becomes_177 rfl ?_
  refine aw_icmp_ge (npc := 182) (tgt := 200) dX0_becomes_179 rfl (by decide) (fun hc => absurd hc (by decide)) (fun _ => ?_)
  refine aw_aload_n (npc := 183) rfl dX0_becomes_182 rfl ?_
  refine aw_get (npc := 186) dX0_becomes_183 rfl kf_X0_60 (am_ne (by decide) (am_ne (by decide) (am_ne (by decide) (am_ne (by decide) (am_ne (by decide) (am_ne (by decide) am_eq)))))) rfl ?_
  refine aw_iload_n (npc := 187) rfl dX0_becomes_186 rfl ?_
  refine aw_aload_n (npc := 188) rfl dX0_becomes_187 rfl ?_
  refine aw_get (npc := 191) dX0_becomes_188 rfl kf_X0_60 (am_ne (by decide) (am_ne (by decide) (am_ne (by decide) (am_ne (by decide) (am_ne (by decide) (am_ne (by decide) (am_ne (by decide) (am_ne (by decide) (am_ne (by decide) (am_ne (by decide) f1)))))))))) rfl ?_
  refine aw_iload_n (npc := 192) rfl dX0_becomes_191 rfl ?_
  refine aw_aald (npc := 193) (j := 5) dX0_becomes_192 rfl (by decide) (am_ne (by decide) (am_ne (by decide) (am_ne (by decide) (am_ne (by decide) (am_ne (by decide) (am_ne (by decide) (am_ne (by decide) (am_ne (by decide) (am_ne (by decide) (am_ne (by decide) f10)))))))))) ⟨by decide, by decide⟩ rfl ?_
  refine aw_aastN (npc := 194) (j := 5) dX0_becomes_193 rfl (by decide) am_eq ⟨by decide, by decide⟩ (by decide) am_uu ?_
  refine aw_iinc (npc := 197) (v := 6) (L' := [some (.ref 25), some (.ref 1), some (.int 6)]) dX0_becomes_194 rfl rfl (by decide) (by decide) rfl rfl ?_
  refine aw_goto (npc := 176) dX0_becomes_197 (by decide) ?_
  refine aw_iload_n (npc := 177) rfl dX0_becomes_176 rfl ?_
  refine aw_bipush (npc := 179) (v := 14) (by decide) dX0_becomes_177 rfl ?_
  refine aw_icmp_ge (npc := 182) (tgt := 200) dX0_becomes_179 rfl (by decide) (fun hc => absurd hc (by decide)) (fun _ => ?_)
  refine aw_aload_n (npc := 183) rfl dX0_becomes_182 rfl ?_
  refine aw_get (npc := 186) dX0_becomes_183 rfl kf_X0_60 (am_ne (by decide) (am_ne (by decide) (am_ne (by decide) (am_ne (by decide) (am_ne (by decide) (am_ne (by decide) am_eq)))))) rfl ?_
  refine aw_iload_n (npc := 187) rfl dX0_becomes_186 rfl ?_
  refine aw_aload_n (npc := 188) rfl dX0_becomes_187 rfl ?_
  refine aw_get (npc := 191) dX0_becomes_188 rfl kf_X0_60 (am_ne (by decide) (am_ne (by decide) (am_ne (by decide) (am_ne (by decide) (am_ne (by decide) (am_ne (by decide) (am_ne (by decide) (am_ne (by decide) (am_ne (by decide) (am_ne (by decide) f1)))))))))) rfl ?_
  refine aw_iload_n (npc := 192) rfl dX0_becomes_191 rfl ?_
  refine aw_aald (npc := 193) (j := 6) dX0_becomes_192 rfl (by decide) (am_ne (by decide) (am_ne (by decide) (am_ne (by decide) (am_ne (by decide) (am_ne (by decide) (am_ne (by decide) (am_ne (by decide) (am_ne (by decide) (am_ne (by decide) (am_ne (by decide) f10)))))))))) ⟨by decide, by decide⟩ rfl ?_
  refine aw_aastN (npc := 194) (j := 6) dX0_becomes_193 rfl (by decide) am_eq ⟨by decide, by decide⟩ (by decide) am_uu ?_
  refine aw_iinc (npc := 197) (v := 7) (L' := [some (.ref 25), some (.ref 1), some (.int 7)]) dX0_becomes_194 rfl rfl (by decide) (by decide) rfl rfl ?_
  refine aw_goto (npc := 176) dX0_becomes_197 (by decide) ?_
  refine aw_iload_n (npc := 177) rfl dX0_becomes_176 rfl ?_
  refine aw_bipush (npc := 179) (v := 14) (by decide) dX0_becomes_177 rfl ?_
  refine aw_icmp_ge (npc := 182) (tgt := 200) dX0_becomes_179 rfl (by decide) (fun hc => absurd hc (by decide)) (fun _ => ?_)
  refine aw_aload_n (npc := 183) rfl dX0_becomes_182 rfl ?_
  refine aw_get (npc := 186) dX0_becomes_183 rfl kf_X0_60 (am_ne (by decide) (am_ne (by decide) (am_ne (by decide) (am_ne (by decide) (am_ne (by decide) (am_ne (by decide) am_eq)))))) rfl ?_
  refine aw_iload_n (npc := 187) rfl dX0_becomes_186 rfl ?_
  refine aw_aload_n (npc := 188) rfl dX0_becomes_187 rfl ?_
  refine aw_get (npc := 191) dX0_becomes_188 rfl kf_X0_60 (am_ne (by decide) (am_ne (by decide) (am_ne (by decide) (am_ne (by decide) (am_ne (by decide) (am_ne (by decide) (am_ne (by decide) (am_ne (by decide) (am_ne (by decide) (am_ne (by decide) f1)))))))))) rfl ?_
  refine aw_iload_n (npc := 192) rfl dX0_becomes_191 rfl ?_
  refine aw_aald (npc := 193) (j := 7) dX0_becomes_192 rfl (by decide) (am_ne (by decide) (am_ne (by decide) (am_ne (by decide) (am_ne (by decide) (am_ne (by decide) (am_ne (by decide) (am_ne (by decide) (am_ne (by decide) (am_ne (by decide) (am_ne (by decide) f10)))))))))) ⟨by decide, by decide⟩ rfl ?_
  refine aw_aastN (npc := 194) (j := 7) dX0_becomes_193 rfl (by decide) am_eq ⟨by decide, by decide⟩ (by decide) am_uu ?_
  refine aw_iinc (npc := 197) (v := 8) (L' := [some (.ref 25), some (.ref 1), some (.int 8)]) dX0_becomes_194 rfl rfl (by decide) (by decide) rfl rfl ?_
  refine aw_goto (npc := 176) dX0_becomes_197 (by decide) ?_
  refine aw_iload_n (npc := 177) rfl dX0_becomes_176 rfl ?_
  refine aw_bipush (npc := 179) (v := 14) (by decide) dX0_becomes_177 rfl ?_
  refine aw_icmp_ge (npc := 182) (tgt := 200) dX0_becomes_179 rfl (by decide) (fun hc => absurd hc (by decide)) (fun _ => ?_)
  refine aw_aload_n (npc := 183) rfl dX0_becomes_182 rfl ?_
  refine aw_get (npc := 186) dX0_becomes_183 rfl kf_X0_60 (am_ne (by decide) (am_ne (by decide) (am_ne (by decide) (am_ne (by decide) (am_ne (by decide) (am_ne (by decide) am_eq)))))) rfl ?_
  refine aw_iload_n (npc := 187) rfl dX0_becomes_186 rfl ?_
  refine aw_aload_n (npc := 188) rfl dX0_becomes_187 rfl ?_
  refine aw_get (npc := 191) dX0_becomes_188 rfl kf_X0_60 (am_ne (by decide) (am_ne (by decide) (am_ne (by decide) (am_ne (by decide) (am_ne (by decide) (am_ne (by decide) (am_ne (by decide) (am_ne (by decide) (am_ne (by decide) (am_ne (by decide) f1)))))))))) rfl ?_
  refine aw_iload_n (npc := 192) rfl dX0_becomes_191 rfl ?_
  refine aw_aald (npc := 193) (j := 8) dX0_becomes_192 rfl (by decide) (am_ne (by decide) (am_ne (by decide) (am_ne (by decide) (am_ne (by decide) (am_ne (by decide) (am_ne (by decide) (am_ne (by decide) (am_ne (by decide) (am_ne (by decide) (am_ne (by decide) f10)))))))))) ⟨by decide, by decide⟩ rfl ?_
  refine aw_aastN (npc := 194) (j := 8) dX0_becomes_193 rfl (by decide) am_eq ⟨by decide, by decide⟩ (by decide) am_uu ?_
  refine aw_iinc (npc := 197) (v := 9) (L' := [some (.ref 25), some (.ref 1), some (.int 9)]) dX0_becomes_194 rfl rfl (by decide) (by decide) rfl rfl ?_
  refine aw_goto (npc := 176) dX0_becomes_197 (by decide) ?_
  refine aw_iload_n (npc := 177) rfl dX0_becomes_176 rfl ?_
  refine aw_bipush (npc := 179) (v := 14) (by decide) dX0_becomes_177 rfl ?_
  refine aw_icmp_ge (npc := 182) (tgt := 200) dX0_becomes_179 rfl (by decide) (fun hc => absurd hc (by decide)) (fun _ => ?_)
  refine aw_aload_n (npc := 183) rfl dX0_becomes_182 rfl ?_
  refine aw_get (npc := 186) dX0_becomes_183 rfl kf_X0_60 (am_ne (by decide) (am_ne (by decide) (am_ne (by decide) (am_ne (by decide) (am_ne (by decide) (am_ne (by decide) am_eq)))))) rfl ?_
  refine aw_iload_n (npc := 187) rfl dX0_becomes_186 rfl ?_
  refine aw_aload_n (npc := 188) rfl dX0_becomes_187 rfl ?_
  refine aw_get (npc := 191) dX0_becomes_188 rfl kf_X0_60 (am_ne (by decide) (am_ne (by decide) (am_ne (by decide) (am_ne (by decide) (am_ne (by decide) (am_ne (by decide) (am_ne (by decide) (am_ne (by decide) (am_ne (by decide) (am_ne (by decide) f1)))))))))) rfl ?_
  refine aw_iload_n (npc := 192) rfl dX0_becomes_191 rfl ?_
  refine aw_aald (npc := 193) (j := 9) dX0_becomes_192 rfl (by decide) (am_ne (by decide) (am_ne (by decide) (am_ne (by decide) (am_ne (by decide) (am_ne (by decide) (am_ne (by decide) (am_ne (by decide) (am_ne (by decide) (am_ne (by decide) (am_ne (by decide) f10)))))))))) ⟨by decide, by decide⟩ rfl ?_
  refine aw_aastN (npc := 194) (j := 9) dX0_becomes_193 rfl (by decide) am_eq ⟨by decide, by decide⟩ (by decide) am_uu ?_
  refine aw_iinc (npc := 197) (v := 10) (L' := [some (.ref 25), some (.ref 1), some (.int 10)]) dX0_becomes_194 rfl rfl (by decide) (by decide) rfl rfl ?_
  refine aw_goto (npc := 176) dX0_becomes_197 (by decide) ?_
  refine aw_iload_n (npc := 177) rfl dX0_becomes_176 rfl ?_
  refine aw_bipush (npc := 179) (v := 14) (by decide) dX0_becomes_177 rfl ?_
  refine aw_icmp_ge (npc := 182) (tgt := 200) dX0_becomes_179 rfl (by decide) (fun hc => absurd hc (by decide)) (fun _ => ?_)
  refine aw_aload_n (npc := 183) rfl dX0_becomes_182 rfl ?_
  refine aw_get (npc := 186) dX0_becomes_183 rfl kf_X0_60 (am_ne (by decide) (am_ne (by decide) (am_ne (by decide) (am_ne (by decide) (am_ne (by decide) (am_ne (by decide) am_eq)))))) rfl ?_
  refine aw_iload_n (npc := 187) rfl dX0_becomes_186 rfl ?_
  refine aw_aload_n (npc := 188) rfl dX0_becomes_187 rfl ?_
  refine aw_get (npc := 191) dX0_becomes_188 rfl kf_X0_60 (am_ne (by decide) (am_ne (by decide) (am_ne (by decide) (am_ne (by decide) (am_ne (by decide) (am_ne (by decide) (am_ne (by decide) (am_ne (by decide) (am_ne (by decide) (am_ne (by decide) f1)))))))))) rfl ?_
  refine aw_iload_n (npc := 192) rfl dX0_becomes_191 rfl ?_
  refine aw_aald (npc := 193) (j := 10) dX0_becomes_192 rfl (by decide) (am_ne (by decide) (am_ne (by decide) (am_ne (by decide) (am_ne (by decide) (am_ne (by decide) (am_ne (by decide) (am_ne (by decide) (am_ne (by decide) (am_ne (by decide) (am_ne (by decide) f10)))))))))) ⟨by decide, by decide⟩ rfl ?_
  refine aw_aastN (npc := 194) (j := 10) dX0_becomes_193 rfl (by decide) am_eq ⟨by decide, by decide⟩ (by decide) am_uu ?_
  refine aw_iinc (npc := 197) (v := 11) (L' := [some (.ref 25), some (.ref 1), some (.int 11)]) dX0_becomes_194 rfl rfl (by decide) (by decide) rfl rfl ?_
  refine aw_goto (npc := 176) dX0_becomes_197 (by decide) ?_
  refine aw_iload_n (npc := 177) rfl dX0_becomes_176 rfl ?_
  refine aw_bipush (npc := 179) (v := 14) (by decide) dX0_becomes_177 rfl ?_
  refine aw_icmp_ge (npc := 182) (tgt := 200) dX0_becomes_179 rfl (by decide) (fun hc => absurd hc (by decide)) (fun _ => ?_)
  refine aw_aload_n (npc := 183) rfl dX0_becomes_182 rfl ?_
  refine aw_get (npc := 186) dX0_becomes_183 rfl kf_X0_60 (am_ne (by decide) (am_ne (by decide) (am_ne (by decide) (am_ne (by decide) (am_ne (by decide) (am_ne (by decide) am_eq)))))) rfl ?_
  refine aw_iload_n (npc := 187) rfl dX0_becomes_186 rfl ?_
  refine aw_aload_n (npc := 188) rfl dX0_becomes_187 rfl ?_
  refine aw_get (npc := 191) dX0_becomes_188 rfl kf_X0_60 (am_ne (by decide) (am_ne (by decide) (am_ne (by decide) (am_ne (by decide) (am_ne (by decide) (am_ne (by decide) (am_ne (by decide) (am_ne (by decide) (am_ne (by decide) (am_ne (by decide) f1)))))))))) rfl ?_
  refine aw_iload_n (npc := 192) rfl dX0_becomes_191 rfl ?_
  refine aw_aald (npc := 193) (j := 11) dX0_becomes_192 rfl (by decide) (am_ne (by decide) (am_ne (by decide) (am_ne (by decide) (am_ne (by decide) (am_ne (by decide) (am_ne (by decide) (am_ne (by decide) (am_ne (by decide) (am_ne (by decide) (am_ne (by decide) f10)))))))))) ⟨by decide, by decide⟩ rfl ?_
  refine aw_aastN (npc := 194) (j := 11) dX0_becomes_193 rfl (by decide) am_eq ⟨by decide, by decide⟩ (by decide) am_uu ?_
  refine aw_iinc (npc := 197) (v := 12) (L' := [some (.ref 25), some (.ref 1), some (.int 12)]) dX0_becomes_194 rfl rfl (by decide) (by decide) rfl rfl ?_
  refine aw_goto (npc := 176) dX0_becomes_197 (by decide) ?_
  refine aw_iload_n (npc := 177) rfl dX0_becomes_176 rfl ?_
  refine aw_bipush (npc := 179) (v := 14) (by decide) dX0_becomes_177 rfl ?_
  refine aw_icmp_ge (npc := 182) (tgt := 200) dX0_becomes_179 rfl (by decide) (fun hc => absurd hc (by decide)) (fun _ => ?_)
  refine aw_aload_n (npc := 183) rfl dX0_becomes_182 rfl ?_
  refine aw_get (npc := 186) dX0_becomes_183 rfl kf_X0_60 (am_ne (by decide) (am_ne (by decide) (am_ne (by decide) (am_ne (by decide) (am_ne (by decide) (am_ne (by decide) am_eq)))))) rfl ?_
  refine aw_iload_n (npc := 187) rfl dX0_becomes_186 rfl ?_
  refine aw_aload_n (npc := 188) rfl dX0_becomes_187 rfl ?_
  refine aw_get (npc := 191) dX0_becomes_188 rfl kf_X0_60 (am_ne (by decide) (am_ne (by decide) (am_ne (by decide) (am_ne (by decide) (am_ne (by decide) (am_ne (by decide) (am_ne (by decide) (am_ne (by decide) (am_ne (by decide) (am_ne (by decide) f1)))))))))) rfl ?_
  refine aw_iload_n (npc := 192) rfl dX0_becomes_191 rfl ?_
  refine aw_aald (npc := 193) (j := 12) dX0_becomes_192 rfl (by decide) (am_ne (by decide) (am_ne (by decide) (am_ne (by decide) (am_ne (by decide) (am_ne (by decide) (am_ne (by decide) (am_ne (by decide) (am_ne (by decide) (am_ne (by decide) (am_ne (by decide) f10)))))))))) ⟨by decide, by decide⟩ rfl ?_
  refine aw_aastN (npc := 194) (j := 12) dX0_becomes_193 rfl (by decide) am_eq ⟨by decide, by decide⟩ (by decide) am_uu ?_
  refine aw_iinc (npc := 197) (v := 13) (L' := [some (.ref 25), some (.ref 1), some (.int 13)]) dX0_becomes_194 rfl rfl (by decide) (by decide) rfl rfl ?_
  refine aw_goto (npc := 176) dX0_becomes_197 (by decide) ?_
  refine aw_iload_n (npc := 177) rfl dX0_becomes_176 rfl ?_
  refine aw_bipush (npc := 179) (v := 14) (by decide) dX0_becomes_177 rfl ?_
  refine aw_icmp_ge (npc := 182) (tgt := 200) dX0_becomes_179 rfl (by decide) (fun hc => absurd hc (by decide)) (fun _ => ?_)
  refine aw_aload_n (npc := 183) rfl dX0_becomes_182 rfl ?_
  refine aw_get (npc := 186) dX0_becomes_183 rfl kf_X0_60 (am_ne (by decide) (am_ne (by decide) (am_ne (by decide) (am_ne (by decide) (am_ne (by decide) (am_ne (by decide) am_eq)))))) rfl ?_
  refine aw_iload_n (npc := 187) rfl dX0_becomes_186 rfl ?_
  refine aw_aload_n (npc := 188) rfl dX0_becomes_187 rfl ?_
  refine aw_get (npc := 191) dX0_becomes_188 rfl kf_X0_60 (am_ne (by decide) (am_ne (by decide) (am_ne (by decide) (am_ne (by decide) (am_ne (by decide) (am_ne (by decide) (am_ne (by decide) (am_ne (by decide) (am_ne (by decide) (am_ne (by decide) f1)))))))))) rfl ?_
  refine aw_iload_n (npc := 192) rfl dX0_becomes_191 rfl ?_
  refine aw_aald (npc := 193) (j := 13) dX0_becomes_192 rfl (by decide) (am_ne (by decide) (am_ne (by decide) (am_ne (by decide) (am_ne (by decide) (am_ne (by decide) (am_ne (by decide) (am_ne (by decide) (am_ne (by decide) (am_ne (by decide) (am_ne (by decide) f10)))))))))) ⟨by decide, by decide⟩ rfl ?_
  refine aw_aastN (npc := 194) (j := 13) dX0_becomes_193 rfl (by decide) am_eq ⟨by decide, by decide⟩ (by decide) am_uu ?_
  refine aw_iinc (npc := 197) (v := 14) (L' := [some (.ref 25), some (.ref 1), some (.int 14)]) dX0_becomes_194 rfl rfl (by decide) (by decide) rfl rfl ?_
  refine aw_goto (npc := 176) dX0_becomes_197 (by decide) ?_
  refine aw_iload_n (npc := 177) rfl dX0_becomes_176 rfl ?_
  refine aw_bipush (npc := 179) (v := 14) (by decide) dX0_becomes_177 rfl ?_
  refine aw_icmp_ge (npc := 182) (tgt := 200) dX0_becomes_179 rfl (by decide) (fun _ => ?_) (fun hc => absurd (by decide) hc)
  refine aw_aload_n (npc := 201) rfl dX0_becomes_200 rfl ?_
  refine aw_aload_n (npc := 202) rfl dX0_becomes_201 rfl ?_
  refine aw_get (npc := 205) dX0_becomes_202 rfl kf_X0_64 (am_ne (by decide) (am_ne (by decide) (am_ne (by decide) (am_ne (by decide) (am_ne (by decide) (am_ne (by decide) (am_ne (by decide) (am_ne (by decide) (am_ne (by decide) (am_ne (by decide) f1)))))))))) rfl ?_
  refine aw_put (npc := 208) dX0_becomes_205 rfl kf_X0_64 (am_ne (by decide) (am_ne (by decide) (am_ne (by decide) (am_ne (by decide) (am_ne (by decide) (am_ne (by decide) am_eq)))))) (Nat.le_of_ble_eq_true rfl) (am_ok_int _) rfl ?_
  refine aw_aload_n (npc := 209) rfl dX0_becomes_208 rfl ?_
  refine aw_get (npc := 212) dX0_becomes_209 rfl kf_X0_67 (am_ne (by decide) (am_ne (by decide) (am_ne (by decide) (am_ne (by decide) (am_ne (by decide) (am_ne (by decide) (am_ne (by decide) (am_ne (by decide) (am_ne (by decide) (am_ne (by decide) (am_ne (by decide) f1))))))))))) rfl ?_
  refine aw_iconst (npc := 213) (v := 0) (by decide) dX0_becomes_212 rfl ?_
  refine aw_aload_n (npc := 214) rfl dX0_becomes_213 rfl ?_
  refine aw_get (npc := 217) dX0_becomes_214 rfl kf_X0_67 am_eq rfl ?_
  refine aw_iconst (npc := 218) (v := 0) (by decide) dX0_becomes_217 rfl ?_
  refine aw_iconst (npc := 219) (v := 3) (by decide) dX0_becomes_218 rfl ?_
  refine aw_copyi (npc := 222) (sp := 0) (dp := 0) (mm := 3) dX0_becomes_219 rfl kac_X0_73 kac_x (am_ne (by decide) (am_ne (by decide) (am_ne (by decide) (am_ne (by decide) (am_ne (by decide) (am_ne (by decide) (am_ne (by decide) (am_ne (by decide) (am_ne (by decide) (am_ne (by decide) (am_ne (by decide) f11))))))))))) (am_ne (by decide) (am_ne (by decide) (am_ne (by decide) (am_ne (by decide) (am_ne (by decide) (am_ne (by decide) (am_ne (by decide) (am_ne (by decide) (am_ne (by decide) (am_ne (by decide) (am_ne (by decide) g35))))))))))) ⟨by decide, by decide⟩ ⟨by decide, by decide⟩ ⟨by decide, by decide⟩ (Nat.le_of_ble_eq_true rfl) (Nat.le_of_ble_eq_true rfl) (Nat.le_of_ble_eq_true rfl) (show _ = am_up _ 35 (.inl (0, [(-1), (-1), (-1)])) from rfl) ?_
  refine aw_vret rfl dX0_becomes_222 ?_
  exact hq _ ⟨(am_ne (by decide) am_eq), (am_ne (by decide) (am_ne (by decide) (am_ne (by decide) (am_ne (by decide) (am_ne (by decide) (am_ne (by decide) (am_ne (by decide) (am_ne (by decide) (am_ne (by decide) (am_ne (by decide) (am_ne (by decide) am_eq))))))))))), (am_ne (by decide) (am_ne (by decide) (am_ne (by decide) (am_ne (by decide) (am_ne (by decide) (am_ne (by decide) (am_ne (by decide) (am_ne (by decide) (am_ne (by decide) (am_ne (by decide) am_eq)))))))))), (am_ne (by decide) (am_ne (by decide) (am_ne (by decide) (am_ne (by decide) (am_ne (by decide) (am_ne (by decide) (am_ne (by decide) (am_ne (by decide) (am_ne (by decide) am_eq))))))))), (am_ne (by decide) (am_ne (by decide) (am_ne (by decide) (am_ne (by decide) (am_ne (by decide) (am_ne (by decide) (am_ne (by decide) am_eq))))))), (am_ne (by decide) (am_ne (by decide) (am_ne (by decide) (am_ne (by decide) (am_ne (by decide) (am_ne (by decide) am_eq)))))), (am_ne (by decide) (am_ne (by decide) (am_ne (by decide) (am_ne (by decide) (am_ne (by decide) am_eq))))), (am_ne (by decide) (am_ne (by decide) (am_ne (by decide) (am_ne (by decide) am_eq)))), (am_ne (by decide) (am_ne (by decide) (am_ne (by decide) am_eq))), (am_ne (by decide) (am_ne (by decide) am_eq)), am_eq, (am_ne (by decide) (am_ne (by decide) (am_ne (by decide) (am_ne (by decide) (am_ne (by decide) (am_ne (by decide) (am_ne (by decide) (am_ne (by decide) (am_ne (by decide) (am_ne (by decide) (am_ne (by decide) (am_ne (by decide) g36))))))))))))⟩ (am_fbU (by decide) (am_fbU (by decide) (am_fbU (by decide) (am_fbU (by decide) (am_fbU (by decide) (am_fbU (by decide) (am_fbU (by decide) (am_fbU (by decide) (am_fbU (by decide) (am_fbU (by decide) (am_fbU (by decide) (am_fbU (by decide) am_fb0))))))))))))
