noncomputable def sp_taken : Int32 := 0
noncomputable def sp_terms (w : Int32) : Int32 := if w = 0 then (-1000000005) else if w = 1 then (-1000000005) else (-1000000001)
theorem dig9 {e : Nat} (he : e ≤ 9) (h : (9 : Int32) ≤ nI e) : e = 9 := by
  have h1 := (nI_leI (a := 9) (b := e) (by omega) (by omega)).mp h
  omega
theorem spare_neg {s : Nat} (hs : s ≤ 36) : (if nI (36 - s) - 20 < nI s - 20 then nI (36 - s) - 20 else nI s - 20) < (0 : Int32) := by
  have e1 : (nI s - 20 : Int32).toInt = (s : Int) - 20 := pk_sub_toInt (a := s) (b := 20) (by omega) (by omega)
  have e2 : (nI (36 - s) - 20 : Int32).toInt = ((36 - s : Nat) : Int) - 20 := pk_sub_toInt (a := 36 - s) (b := 20) (by omega) (by omega)
  have z : (0 : Int32).toInt = 0 := rfl
  split
  · next q =>
    have q1 := Int32.lt_iff_toInt_lt.mp q
    exact Int32.lt_iff_toInt_lt.mpr (by omega)
  · next q =>
    have q1 : ¬ (nI (36 - s) - 20 : Int32).toInt < (nI s - 20 : Int32).toInt := fun z => q (Int32.lt_iff_toInt_lt.mpr z)
    exact Int32.lt_iff_toInt_lt.mpr (by omega)
theorem lt0_le {r : Int32} (h : r < 0) : r ≤ -1 := by
  have h1 := Int32.lt_iff_toInt_lt.mp h
  have z : (0 : Int32).toInt = 0 := rfl
  have z2 : (-1 : Int32).toInt = -1 := rfl
  exact Int32.le_iff_toInt_le.mpr (by omega)
def fw (a b c e : Nat) (h : am_H) : Prop := (a ≤ 9 ∧ b ≤ 9 ∧ c ≤ 9 ∧ e ≤ 9) ∧ h 37 = some (.inr (6, [.ref 38, .int (nI (a + b + c + e)), .int (nI (36 - (a + b + c + e)))])) ∧ h 38 = some (.inl (0, [nI a, nI b, nI c, nI e]))
set_option maxHeartbeats 40000000 in
set_option maxRecDepth 100000 in
theorem p_spare {X : List Int32} {d rc rs nn : Nat} {Q : am_Q} {a b c e : Nat} {h : am_H} (E : fq1 0 0 h) (F : fw a b c e h) (hq : ∀ r : Int32, r < 0 → Q (some (.int r)) nn h) : AW X mX6_spare (d + 4) rc rs 0 [some (.ref 37), some (.ref 1)] [] nn h Q := by
  obtain ⟨f1, f2, f3, f4, f5, f6, f7, f8, f9, f10, f11, f12⟩ := E
  obtain ⟨hd9, w37, w38⟩ := F
  refine aw_aload_n (npc := 1) rfl dX6_spare_0 rfl ?_
  refine aw_get (npc := 4) dX6_spare_1 rfl kf_X6_15 w37 rfl ?_
  refine aw_aload_n (npc := 5) rfl dX6_spare_4 rfl ?_
  refine aw_get (npc := 8) dX6_spare_5 rfl kf_X6_45 f1 rfl ?_
  refine aw_iconst (npc := 9) (v := 0) (by decide) dX6_spare_8 rfl ?_
  refine aw_iald (npc := 10) (x := 20) (j := 0) dX6_spare_9 rfl f4 ⟨by decide, by decide⟩ rfl ?_
  refine aw_isub (npc := 11) dX6_spare_10 rfl ?_
  refine aw_aload_n (npc := 12) rfl dX6_spare_11 rfl ?_
  refine aw_get (npc := 15) dX6_spare_12 rfl kf_X6_19 w37 rfl ?_
  refine aw_aload_n (npc := 16) rfl dX6_spare_15 rfl ?_
  refine aw_get (npc := 19) dX6_spare_16 rfl kf_X6_45 f1 rfl ?_
  refine aw_iconst (npc := 20) (v := 1) (by decide) dX6_spare_19 rfl ?_
  refine aw_iald (npc := 21) (x := 20) (j := 1) dX6_spare_20 rfl f4 ⟨by decide, by decide⟩ rfl ?_
  refine aw_isub (npc := 22) dX6_spare_21 rfl ?_
  refine aw_mmin (npc := 25) dX6_spare_22 rfl kmm_X6_48 kmx_min (Nat.le_of_ble_eq_true rfl) ?_
  refine aw_iret rfl dX6_spare_25 ?_
  exact hq _ (spare_neg (by omega))
set_option maxHeartbeats 40000000 in
set_option maxRecDepth 100000 in
theorem p_step {X : List Int32} {d rc rs nn : Nat} {Q : am_Q} {a b c e : Nat} {h : am_H} (E : fq1 0 0 h) (F : fw a b c e h) (hq : ∀ (a2 b2 c2 e2 : Nat) (h9 : am_H), fw a2 b2 c2 e2 h9 → am_fb 37 39 h9 h → Q none nn h9) : AW X mX6_step (d + 4) rc rs 0 [some (.ref 37), some (.ref 1), none, none, none] [] nn h Q := by
  obtain ⟨f1, f2, f3, f4, f5, f6, f7, f8, f9, f10, f11, f12⟩ := E
  obtain ⟨⟨u1, u2, u3, u4⟩, w37, w38⟩ := F
  refine aw_iconst (npc := 1) (v := 3) (by decide) dX6_step_0 rfl ?_
  refine aw_istore_n (npc := 2) (L' := [some (.ref 37), some (.ref 1), some (.int 3), none, none]) dX6_step_1 rfl (by decide) rfl rfl ?_
  refine aw_iload_n (npc := 3) rfl dX6_step_2 rfl ?_
  refine aw_if_lt (npc := 6) (tgt := 112) dX6_step_3 rfl (by decide) (fun hc => absurd hc (by decide)) (fun _ => ?_)
  refine aw_aload_n (npc := 7) rfl dX6_step_6 rfl ?_
  refine aw_get (npc := 10) dX6_step_7 rfl kf_X6_36 f1 rfl ?_
  refine aw_iconst (npc := 11) (v := 0) (by decide) dX6_step_10 rfl ?_
  refine aw_iload_n (npc := 12) rfl dX6_step_11 rfl ?_
  refine aw_callSN (npc := 15) (N := mX7_carePlace) (mc := 0) (ms := 0) (A := [.int 0, .int 3]) (S := [.ref 3]) (L0 := [some (.int 0), some (.int 3)]) dX6_step_12 rfl km_X7_carePlace kk_X6_41 rfl ⟨rfl, by decide⟩ rfl (Nat.le_of_ble_eq_true rfl) (Nat.zero_add _) (Nat.zero_add _) rfl ?_
  refine aw_iload_n (npc := 1) rfl dX7_carePlace_0 rfl ?_
  refine aw_iconst (npc := 2) (v := 4) (by decide) dX7_carePlace_1 rfl ?_
  refine aw_imulV (npc := 3) (v := 0) dX7_carePlace_2 rfl (by decide) ?_
  refine aw_iload_n (npc := 4) rfl dX7_carePlace_3 rfl ?_
  refine aw_iaddV (npc := 5) (v := 3) dX7_carePlace_4 rfl (by decide) ?_
  refine aw_iret rfl dX7_carePlace_5 ?_
  refine aw_re (S' := [.int 3, .ref 3]) rfl ?_
  refine aw_iald (npc := 16) (x := 1) (j := 3) dX6_step_15 rfl f3 ⟨by decide, by decide⟩ rfl ?_
  refine aw_istore_n (npc := 17) (L' := [some (.ref 37), some (.ref 1), some (.int 3), some (.int 1), none]) dX6_step_16 rfl (by decide) rfl rfl ?_
  refine aw_aload_n (npc := 18) rfl dX6_step_17 rfl ?_
  refine aw_get (npc := 21) dX6_step_18 rfl kf_X6_36 f1 rfl ?_
  refine aw_iconst (npc := 22) (v := 1) (by decide) dX6_step_21 rfl ?_
  refine aw_iload_n (npc := 23) rfl dX6_step_22 rfl ?_
  refine aw_callSN (npc := 26) (N := mX7_carePlace) (mc := 0) (ms := 0) (A := [.int 1, .int 3]) (S := [.ref 3]) (L0 := [some (.int 1), some (.int 3)]) dX6_step_23 rfl km_X7_carePlace kk_X6_41 rfl ⟨rfl, by decide⟩ rfl (Nat.le_of_ble_eq_true rfl) (Nat.zero_add _) (Nat.zero_add _) rfl ?_
  refine aw_iload_n (npc := 1) rfl dX7_carePlace_0 rfl ?_
  refine aw_iconst (npc := 2) (v := 4) (by decide) dX7_carePlace_1 rfl ?_
  refine aw_imulV (npc := 3) (v := 4) dX7_carePlace_2 rfl (by decide) ?_
  refine aw_iload_n (npc := 4) rfl dX7_carePlace_3 rfl ?_
  refine aw_iaddV (npc := 5) (v := 7) dX7_carePlace_4 rfl (by decide) ?_
  refine aw_iret rfl dX7_carePlace_5 ?_
  refine aw_re (S' := [.int 7, .ref 3]) rfl ?_
  refine aw_iald (npc := 27) (x := 1) (j := 7) dX6_step_26 rfl f3 ⟨by decide, by decide⟩ rfl ?_
  refine aw_istore (npc := 29) (L' := [some (.ref 37), some (.ref 1), some (.int 3), some (.int 1), some (.int 1)]) dX6_step_27 rfl (by decide) rfl rfl ?_
  refine aw_aload_n (npc := 30) rfl dX6_step_29 rfl ?_
  refine aw_get (npc := 33) dX6_step_30 rfl kf_X6_9 w37 rfl ?_
  refine aw_iload_n (npc := 34) rfl dX6_step_33 rfl ?_
  refine aw_iald (npc := 35) (x := nI e) (j := 3) dX6_step_34 rfl w38 ⟨by decide, by decide⟩ rfl ?_
  refine aw_bipush (npc := 37) (v := 9) (by decide) dX6_step_35 rfl ?_
  refine aw_icmp_ge (npc := 40) (tgt := 72) dX6_step_37 rfl (by decide) (fun hc1 => ?_) (fun hc1 => ?_)
  · have qe := dig9 (by omega) hc1
    refine aw_aload_n (npc := 73) rfl dX6_step_72 rfl ?_
    refine aw_get (npc := 76) dX6_step_73 rfl kf_X6_9 w37 rfl ?_
    refine aw_iload_n (npc := 77) rfl dX6_step_76 rfl ?_
    refine aw_iconst (npc := 78) (v := 0) (by decide) dX6_step_77 rfl ?_
    refine aw_iast (npc := 79) (j := 3) dX6_step_78 rfl w38 ⟨by decide, by decide⟩ (Nat.le_of_ble_eq_true rfl) (show _ = am_up _ 38 (.inl (0, [nI a, nI b, nI c, 0])) from rfl) ?_
    refine aw_aload_n (npc := 80) rfl dX6_step_79 rfl ?_
    refine aw_dup (npc := 81) rfl dX6_step_80 rfl ?_
    refine aw_get (npc := 84) dX6_step_81 rfl kf_X6_15 (am_ne (by decide) w37) rfl ?_
    refine aw_bipush (npc := 86) (v := 9) (by decide) dX6_step_84 rfl ?_
    refine aw_iload_n (npc := 87) rfl dX6_step_86 rfl ?_
    refine aw_imulV (npc := 88) (v := 9) dX6_step_87 rfl (by decide) ?_
    refine aw_isubV (npc := 89) (v := nI ((a + b + c + e) - 9)) dX6_step_88 rfl (pk_sub (b := 9) (by omega)) ?_
    refine aw_put (npc := 92) dX6_step_89 rfl kf_X6_15 (am_ne (by decide) w37) (Nat.le_of_ble_eq_true rfl) (am_ok_int _) rfl ?_
    refine aw_aload_n (npc := 93) rfl dX6_step_92 rfl ?_
    refine aw_dup (npc := 94) rfl dX6_step_93 rfl ?_
    refine aw_get (npc := 97) dX6_step_94 rfl kf_X6_19 am_eq rfl ?_
    refine aw_bipush (npc := 99) (v := 9) (by decide) dX6_step_97 rfl ?_
    refine aw_iload (npc := 101) rfl dX6_step_99 rfl ?_
    refine aw_imulV (npc := 102) (v := 9) dX6_step_101 rfl (by decide) ?_
    refine aw_iaddV (npc := 103) (v := nI ((36 - (a + b + c + e)) + 9)) dX6_step_102 rfl (nI_add _ 9) ?_
    refine aw_put (npc := 106) dX6_step_103 rfl kf_X6_19 am_eq (Nat.le_of_ble_eq_true rfl) (am_ok_int _) am_uu ?_
    refine aw_iinc (npc := 109) (v := 2) (L' := [some (.ref 37), some (.ref 1), some (.int 2), some (.int 1), some (.int 1)]) dX6_step_106 rfl rfl (by decide) (by decide) rfl rfl ?_
    refine aw_goto (npc := 2) dX6_step_109 (by decide) ?_
    refine aw_iload_n (npc := 3) rfl dX6_step_2 rfl ?_
    refine aw_if_lt (npc := 6) (tgt := 112) dX6_step_3 rfl (by decide) (fun hc => absurd hc (by decide)) (fun _ => ?_)
    refine aw_aload_n (npc := 7) rfl dX6_step_6 rfl ?_
    refine aw_get (npc := 10) dX6_step_7 rfl kf_X6_36 (am_ne (by decide) (am_ne (by decide) f1)) rfl ?_
    refine aw_iconst (npc := 11) (v := 0) (by decide) dX6_step_10 rfl ?_
    refine aw_iload_n (npc := 12) rfl dX6_step_11 rfl ?_
    refine aw_callSN (npc := 15) (N := mX7_carePlace) (mc := 0) (ms := 0) (A := [.int 0, .int 2]) (S := [.ref 3]) (L0 := [some (.int 0), some (.int 2)]) dX6_step_12 rfl km_X7_carePlace kk_X6_41 rfl ⟨rfl, by decide⟩ rfl (Nat.le_of_ble_eq_true rfl) (Nat.zero_add _) (Nat.zero_add _) rfl ?_
    refine aw_iload_n (npc := 1) rfl dX7_carePlace_0 rfl ?_
    refine aw_iconst (npc := 2) (v := 4) (by decide) dX7_carePlace_1 rfl ?_
    refine aw_imulV (npc := 3) (v := 0) dX7_carePlace_2 rfl (by decide) ?_
    refine aw_iload_n (npc := 4) rfl dX7_carePlace_3 rfl ?_
    refine aw_iaddV (npc := 5) (v := 2) dX7_carePlace_4 rfl (by decide) ?_
    refine aw_iret rfl dX7_carePlace_5 ?_
    refine aw_re (S' := [.int 2, .ref 3]) rfl ?_
    refine aw_iald (npc := 16) (x := 1) (j := 2) dX6_step_15 rfl (am_ne (by decide) (am_ne (by decide) f3)) ⟨by decide, by decide⟩ rfl ?_
    refine aw_istore_n (npc := 17) (L' := [some (.ref 37), some (.ref 1), some (.int 2), some (.int 1), some (.int 1)]) dX6_step_16 rfl (by decide) rfl rfl ?_
    refine aw_aload_n (npc := 18) rfl dX6_step_17 rfl ?_
    refine aw_get (npc := 21) dX6_step_18 rfl kf_X6_36 (am_ne (by decide) (am_ne (by decide) f1)) rfl ?_
    refine aw_iconst (npc := 22) (v := 1) (by decide) dX6_step_21 rfl ?_
    refine aw_iload_n (npc := 23) rfl dX6_step_22 rfl ?_
    refine aw_callSN (npc := 26) (N := mX7_carePlace) (mc := 0) (ms := 0) (A := [.int 1, .int 2]) (S := [.ref 3]) (L0 := [some (.int 1), some (.int 2)]) dX6_step_23 rfl km_X7_carePlace kk_X6_41 rfl ⟨rfl, by decide⟩ rfl (Nat.le_of_ble_eq_true rfl) (Nat.zero_add _) (Nat.zero_add _) rfl ?_
    refine aw_iload_n (npc := 1) rfl dX7_carePlace_0 rfl ?_
    refine aw_iconst (npc := 2) (v := 4) (by decide) dX7_carePlace_1 rfl ?_
    refine aw_imulV (npc := 3) (v := 4) dX7_carePlace_2 rfl (by decide) ?_
    refine aw_iload_n (npc := 4) rfl dX7_carePlace_3 rfl ?_
    refine aw_iaddV (npc := 5) (v := 6) dX7_carePlace_4 rfl (by decide) ?_
    refine aw_iret rfl dX7_carePlace_5 ?_
    refine aw_re (S' := [.int 6, .ref 3]) rfl ?_
    refine aw_iald (npc := 27) (x := 1) (j := 6) dX6_step_26 rfl (am_ne (by decide) (am_ne (by decide) f3)) ⟨by decide, by decide⟩ rfl ?_
    refine aw_istore (npc := 29) (L' := [some (.ref 37), some (.ref 1), some (.int 2), some (.int 1), some (.int 1)]) dX6_step_27 rfl (by decide) rfl rfl ?_
    refine aw_aload_n (npc := 30) rfl dX6_step_29 rfl ?_
    refine aw_get (npc := 33) dX6_step_30 rfl kf_X6_9 am_eq rfl ?_
    refine aw_iload_n (npc := 34) rfl dX6_step_33 rfl ?_
    refine aw_iald (npc := 35) (x := nI c) (j := 2) dX6_step_34 rfl (am_ne (by decide) am_eq) ⟨by decide, by decide⟩ rfl ?_
    refine aw_bipush (npc := 37) (v := 9) (by decide) dX6_step_35 rfl ?_
    refine aw_icmp_ge (npc := 40) (tgt := 72) dX6_step_37 rfl (by decide) (fun hc2 => ?_) (fun hc2 => ?_)
    · have qc := dig9 (by omega) hc2
      refine aw_aload_n (npc := 73) rfl dX6_step_72 rfl ?_
      refine aw_get (npc := 76) dX6_step_73 rfl kf_X6_9 am_eq rfl ?_
      refine aw_iload_n (npc := 77) rfl dX6_step_76 rfl ?_
      refine aw_iconst (npc := 78) (v := 0) (by decide) dX6_step_77 rfl ?_
      refine aw_iast (npc := 79) (j := 2) dX6_step_78 rfl (am_ne (by decide) am_eq) ⟨by decide, by decide⟩ (Nat.le_of_ble_eq_true rfl) (show _ = am_up _ 38 (.inl (0, [nI a, nI b, 0, 0])) from rfl) ?_
      refine aw_aload_n (npc := 80) rfl dX6_step_79 rfl ?_
      refine aw_dup (npc := 81) rfl dX6_step_80 rfl ?_
      refine aw_get (npc := 84) dX6_step_81 rfl kf_X6_15 (am_ne (by decide) am_eq) rfl ?_
      refine aw_bipush (npc := 86) (v := 9) (by decide) dX6_step_84 rfl ?_
      refine aw_iload_n (npc := 87) rfl dX6_step_86 rfl ?_
      refine aw_imulV (npc := 88) (v := 9) dX6_step_87 rfl (by decide) ?_
      refine aw_isubV (npc := 89) (v := nI (((a + b + c + e) - 9) - 9)) dX6_step_88 rfl (pk_sub (b := 9) (by omega)) ?_
      refine aw_put (npc := 92) dX6_step_89 rfl kf_X6_15 (am_ne (by decide) am_eq) (Nat.le_of_ble_eq_true rfl) (am_ok_int _) rfl ?_
      refine aw_aload_n (npc := 93) rfl dX6_step_92 rfl ?_
      refine aw_dup (npc := 94) rfl dX6_step_93 rfl ?_
      refine aw_get (npc := 97) dX6_step_94 rfl kf_X6_19 am_eq rfl ?_
      refine aw_bipush (npc := 99) (v := 9) (by decide) dX6_step_97 rfl ?_
      refine aw_iload (npc := 101) rfl dX6_step_99 rfl ?_
      refine aw_imulV (npc := 102) (v := 9) dX6_step_101 rfl (by decide) ?_
      refine aw_iaddV (npc := 103) (v := nI (((36 - (a + b + c + e)) + 9) + 9)) dX6_step_102 rfl (nI_add _ 9) ?_
      refine aw_put (npc := 106) dX6_step_103 rfl kf_X6_19 am_eq (Nat.le_of_ble_eq_true rfl) (am_ok_int _) am_uu ?_
      refine aw_iinc (npc := 109) (v := 1) (L' := [some (.ref 37), some (.ref 1), some (.int 1), some (.int 1), some (.int 1)]) dX6_step_106 rfl rfl (by decide) (by decide) rfl rfl ?_
      refine aw_goto (npc := 2) dX6_step_109 (by decide) ?_
      refine aw_iload_n (npc := 3) rfl dX6_step_2 rfl ?_
      refine aw_if_lt (npc := 6) (tgt := 112) dX6_step_3 rfl (by decide) (fun hc => absurd hc (by decide)) (fun _ => ?_)
      refine aw_aload_n (npc := 7) rfl dX6_step_6 rfl ?_
      refine aw_get (npc := 10) dX6_step_7 rfl kf_X6_36 (am_ne (by decide) (am_ne (by decide) (am_ne (by decide) (am_ne (by decide) f1)))) rfl ?_
      refine aw_iconst (npc := 11) (v := 0) (by decide) dX6_step_10 rfl ?_
      refine aw_iload_n (npc := 12) rfl dX6_step_11 rfl ?_
      refine aw_callSN (npc := 15) (N := mX7_carePlace) (mc := 0) (ms := 0) (A := [.int 0, .int 1]) (S := [.ref 3]) (L0 := [some (.int 0), some (.int 1)]) dX6_step_12 rfl km_X7_carePlace kk_X6_41 rfl ⟨rfl, by decide⟩ rfl (Nat.le_of_ble_eq_true rfl) (Nat.zero_add _) (Nat.zero_add _) rfl ?_
      refine aw_iload_n (npc := 1) rfl dX7_carePlace_0 rfl ?_
      refine aw_iconst (npc := 2) (v := 4) (by decide) dX7_carePlace_1 rfl ?_
      refine aw_imulV (npc := 3) (v := 0) dX7_carePlace_2 rfl (by decide) ?_
      refine aw_iload_n (npc := 4) rfl dX7_carePlace_3 rfl ?_
      refine aw_iaddV (npc := 5) (v := 1) dX7_carePlace_4 rfl (by decide) ?_
      refine aw_iret rfl dX7_carePlace_5 ?_
      refine aw_re (S' := [.int 1, .ref 3]) rfl ?_
      refine aw_iald (npc := 16) (x := 1) (j := 1) dX6_step_15 rfl (am_ne (by decide) (am_ne (by decide) (am_ne (by decide) (am_ne (by decide) f3)))) ⟨by decide, by decide⟩ rfl ?_
      refine aw_istore_n (npc := 17) (L' := [some (.ref 37), some (.ref 1), some (.int 1), some (.int 1), some (.int 1)]) dX6_step_16 rfl (by decide) rfl rfl ?_
      refine aw_aload_n (npc := 18) rfl dX6_step_17 rfl ?_
      refine aw_get (npc := 21) dX6_step_18 rfl kf_X6_36 (am_ne (by decide) (am_ne (by decide) (am_ne (by decide) (am_ne (by decide) f1)))) rfl ?_
      refine aw_iconst (npc := 22) (v := 1) (by decide) dX6_step_21 rfl ?_
      refine aw_iload_n (npc := 23) rfl dX6_step_22 rfl ?_
      refine aw_callSN (npc := 26) (N := mX7_carePlace) (mc := 0) (ms := 0) (A := [.int 1, .int 1]) (S := [.ref 3]) (L0 := [some (.int 1), some (.int 1)]) dX6_step_23 rfl km_X7_carePlace kk_X6_41 rfl ⟨rfl, by decide⟩ rfl (Nat.le_of_ble_eq_true rfl) (Nat.zero_add _) (Nat.zero_add _) rfl ?_
      refine aw_iload_n (npc := 1) rfl dX7_carePlace_0 rfl ?_
      refine aw_iconst (npc := 2) (v := 4) (by decide) dX7_carePlace_1 rfl ?_
      refine aw_imulV (npc := 3) (v := 4) dX7_carePlace_2 rfl (by decide) ?_
      refine aw_iload_n (npc := 4) rfl dX7_carePlace_3 rfl ?_
      refine aw_iaddV (npc := 5) (v := 5) dX7_carePlace_4 rfl (by decide) ?_
      refine aw_iret rfl dX7_carePlace_5 ?_
      refine aw_re (S' := [.int 5, .ref 3]) rfl ?_
      refine aw_iald (npc := 27) (x := 1) (j := 5) dX6_step_26 rfl (am_ne (by decide) (am_ne (by decide) (am_ne (by decide) (am_ne (by decide) f3)))) ⟨by decide, by decide⟩ rfl ?_
      refine aw_istore (npc := 29) (L' := [some (.ref 37), some (.ref 1), some (.int 1), some (.int 1), some (.int 1)]) dX6_step_27 rfl (by decide) rfl rfl ?_
      refine aw_aload_n (npc := 30) rfl dX6_step_29 rfl ?_
      refine aw_get (npc := 33) dX6_step_30 rfl kf_X6_9 am_eq rfl ?_
      refine aw_iload_n (npc := 34) rfl dX6_step_33 rfl ?_
      refine aw_iald (npc := 35) (x := nI b) (j := 1) dX6_step_34 rfl (am_ne (by decide) am_eq) ⟨by decide, by decide⟩ rfl ?_
      refine aw_bipush (npc := 37) (v := 9) (by decide) dX6_step_35 rfl ?_
      refine aw_icmp_ge (npc := 40) (tgt := 72) dX6_step_37 rfl (by decide) (fun hc3 => ?_) (fun hc3 => ?_)
      · have qb := dig9 (by omega) hc3
        refine aw_aload_n (npc := 73) rfl dX6_step_72 rfl ?_
        refine aw_get (npc := 76) dX6_step_73 rfl kf_X6_9 am_eq rfl ?_
        refine aw_iload_n (npc := 77) rfl dX6_step_76 rfl ?_
        refine aw_iconst (npc := 78) (v := 0) (by decide) dX6_step_77 rfl ?_
        refine aw_iast (npc := 79) (j := 1) dX6_step_78 rfl (am_ne (by decide) am_eq) ⟨by decide, by decide⟩ (Nat.le_of_ble_eq_true rfl) (show _ = am_up _ 38 (.inl (0, [nI a, 0, 0, 0])) from rfl) ?_
        refine aw_aload_n (npc := 80) rfl dX6_step_79 rfl ?_
        refine aw_dup (npc := 81) rfl dX6_step_80 rfl ?_
        refine aw_get (npc := 84) dX6_step_81 rfl kf_X6_15 (am_ne (by decide) am_eq) rfl ?_
        refine aw_bipush (npc := 86) (v := 9) (by decide) dX6_step_84 rfl ?_
        refine aw_iload_n (npc := 87) rfl dX6_step_86 rfl ?_
        refine aw_imulV (npc := 88) (v := 9) dX6_step_87 rfl (by decide) ?_
        refine aw_isubV (npc := 89) (v := nI ((((a + b + c + e) - 9) - 9) - 9)) dX6_step_88 rfl (pk_sub (b := 9) (by omega)) ?_
        refine aw_put (npc := 92) dX6_step_89 rfl kf_X6_15 (am_ne (by decide) am_eq) (Nat.le_of_ble_eq_true rfl) (am_ok_int _) rfl ?_
        refine aw_aload_n (npc := 93) rfl dX6_step_92 rfl ?_
        refine aw_dup (npc := 94) rfl dX6_step_93 rfl ?_
        refine aw_get (npc := 97) dX6_step_94 rfl kf_X6_19 am_eq rfl ?_
        refine aw_bipush (npc := 99) (v := 9) (by decide) dX6_step_97 rfl ?_
        refine aw_iload (npc := 101) rfl dX6_step_99 rfl ?_
        refine aw_imulV (npc := 102) (v := 9) dX6_step_101 rfl (by decide) ?_
        refine aw_iaddV (npc := 103) (v := nI ((((36 - (a + b + c + e)) + 9) + 9) + 9)) dX6_step_102 rfl (nI_add _ 9) ?_
        refine aw_put (npc := 106) dX6_step_103 rfl kf_X6_19 am_eq (Nat.le_of_ble_eq_true rfl) (am_ok_int _) am_uu ?_
        refine aw_iinc (npc := 109) (v := 0) (L' := [some (.ref 37), some (.ref 1), some (.int 0), some (.int 1), some (.int 1)]) dX6_step_106 rfl rfl (by decide) (by decide) rfl rfl ?_
        refine aw_goto (npc := 2) dX6_step_109 (by decide) ?_
        refine aw_iload_n (npc := 3) rfl dX6_step_2 rfl ?_
        refine aw_if_lt (npc := 6) (tgt := 112) dX6_step_3 rfl (by decide) (fun hc => absurd hc (by decide)) (fun _ => ?_)
        refine aw_aload_n (npc := 7) rfl dX6_step_6 rfl ?_
        refine aw_get (npc := 10) dX6_step_7 rfl kf_X6_36 (am_ne (by decide) (am_ne (by decide) (am_ne (by decide) (am_ne (by decide) (am_ne (by decide) (am_ne (by decide) f1)))))) rfl ?_
        refine aw_iconst (npc := 11) (v := 0) (by decide) dX6_step_10 rfl ?_
        refine aw_iload_n (npc := 12) rfl dX6_step_11 rfl ?_
        refine aw_callSN (npc := 15) (N := mX7_carePlace) (mc := 0) (ms := 0) (A := [.int 0, .int 0]) (S := [.ref 3]) (L0 := [some (.int 0), some (.int 0)]) dX6_step_12 rfl km_X7_carePlace kk_X6_41 rfl ⟨rfl, by decide⟩ rfl (Nat.le_of_ble_eq_true rfl) (Nat.zero_add _) (Nat.zero_add _) rfl ?_
        refine aw_iload_n (npc := 1) rfl dX7_carePlace_0 rfl ?_
        refine aw_iconst (npc := 2) (v := 4) (by decide) dX7_carePlace_1 rfl ?_
        refine aw_imulV (npc := 3) (v := 0) dX7_carePlace_2 rfl (by decide) ?_
        refine aw_iload_n (npc := 4) rfl dX7_carePlace_3 rfl ?_
        refine aw_iaddV (npc := 5) (v := 0) dX7_carePlace_4 rfl (by decide) ?_
        refine aw_iret rfl dX7_carePlace_5 ?_
        refine aw_re (S' := [.int 0, .ref 3]) rfl ?_
        refine aw_iald (npc := 16) (x := 1) (j := 0) dX6_step_15 rfl (am_ne (by decide) (am_ne (by decide) (am_ne (by decide) (am_ne (by decide) (am_ne (by decide) (am_ne (by decide) f3)))))) ⟨by decide, by decide⟩ rfl ?_
        refine aw_istore_n (npc := 17) (L' := [some (.ref 37), some (.ref 1), some (.int 0), some (.int 1), some (.int 1)]) dX6_step_16 rfl (by decide) rfl rfl ?_
        refine aw_aload_n (npc := 18) rfl dX6_step_17 rfl ?_
        refine aw_get (npc := 21) dX6_step_18 rfl kf_X6_36 (am_ne (by decide) (am_ne (by decide) (am_ne (by decide) (am_ne (by decide) (am_ne (by decide) (am_ne (by decide) f1)))))) rfl ?_
        refine aw_iconst (npc := 22) (v := 1) (by decide) dX6_step_21 rfl ?_
        refine aw_iload_n (npc := 23) rfl dX6_step_22 rfl ?_
        refine aw_callSN (npc := 26) (N := mX7_carePlace) (mc := 0) (ms := 0) (A := [.int 1, .int 0]) (S := [.ref 3]) (L0 := [some (.int 1), some (.int 0)]) dX6_step_23 rfl km_X7_carePlace kk_X6_41 rfl ⟨rfl, by decide⟩ rfl (Nat.le_of_ble_eq_true rfl) (Nat.zero_add _) (Nat.zero_add _) rfl ?_
        refine aw_iload_n (npc := 1) rfl dX7_carePlace_0 rfl ?_
        refine aw_iconst (npc := 2) (v := 4) (by decide) dX7_carePlace_1 rfl ?_
        refine aw_imulV (npc := 3) (v := 4) dX7_carePlace_2 rfl (by decide) ?_
        refine aw_iload_n (npc := 4) rfl dX7_carePlace_3 rfl ?_
        refine aw_iaddV (npc := 5) (v := 4) dX7_carePlace_4 rfl (by decide) ?_
        refine aw_iret rfl dX7_carePlace_5 ?_
        refine aw_re (S' := [.int 4, .ref 3]) rfl ?_
        refine aw_iald (npc := 27) (x := 1) (j := 4) dX6_step_26 rfl (am_ne (by decide) (am_ne (by decide) (am_ne (by decide) (am_ne (by decide) (am_ne (by decide) (am_ne (by decide) f3)))))) ⟨by decide, by decide⟩ rfl ?_
        refine aw_istore (npc := 29) (L' := [some (.ref 37), some (.ref 1), some (.int 0), some (.int 1), some (.int 1)]) dX6_step_27 rfl (by decide) rfl rfl ?_
        refine aw_aload_n (npc := 30) rfl dX6_step_29 rfl ?_
        refine aw_get (npc := 33) dX6_step_30 rfl kf_X6_9 am_eq rfl ?_
        refine aw_iload_n (npc := 34) rfl dX6_step_33 rfl ?_
        refine aw_iald (npc := 35) (x := nI a) (j := 0) dX6_step_34 rfl (am_ne (by decide) am_eq) ⟨by decide, by decide⟩ rfl ?_
        refine aw_bipush (npc := 37) (v := 9) (by decide) dX6_step_35 rfl ?_
        refine aw_icmp_ge (npc := 40) (tgt := 72) dX6_step_37 rfl (by decide) (fun hc4 => ?_) (fun hc4 => ?_)
        · have qa := dig9 (by omega) hc4
          refine aw_aload_n (npc := 73) rfl dX6_step_72 rfl ?_
          refine aw_get (npc := 76) dX6_step_73 rfl kf_X6_9 am_eq rfl ?_
          refine aw_iload_n (npc := 77) rfl dX6_step_76 rfl ?_
          refine aw_iconst (npc := 78) (v := 0) (by decide) dX6_step_77 rfl ?_
          refine aw_iast (npc := 79) (j := 0) dX6_step_78 rfl (am_ne (by decide) am_eq) ⟨by decide, by decide⟩ (Nat.le_of_ble_eq_true rfl) (show _ = am_up _ 38 (.inl (0, [0, 0, 0, 0])) from rfl) ?_
          refine aw_aload_n (npc := 80) rfl dX6_step_79 rfl ?_
          refine aw_dup (npc := 81) rfl dX6_step_80 rfl ?_
          refine aw_get (npc := 84) dX6_step_81 rfl kf_X6_15 (am_ne (by decide) am_eq) rfl ?_
          refine aw_bipush (npc := 86) (v := 9) (by decide) dX6_step_84 rfl ?_
          refine aw_iload_n (npc := 87) rfl dX6_step_86 rfl ?_
          refine aw_imulV (npc := 88) (v := 9) dX6_step_87 rfl (by decide) ?_
          refine aw_isubV (npc := 89) (v := nI (((((a + b + c + e) - 9) - 9) - 9) - 9)) dX6_step_88 rfl (pk_sub (b := 9) (by omega)) ?_
          refine aw_put (npc := 92) dX6_step_89 rfl kf_X6_15 (am_ne (by decide) am_eq) (Nat.le_of_ble_eq_true rfl) (am_ok_int _) rfl ?_
          refine aw_aload_n (npc := 93) rfl dX6_step_92 rfl ?_
          refine aw_dup (npc := 94) rfl dX6_step_93 rfl ?_
          refine aw_get (npc := 97) dX6_step_94 rfl kf_X6_19 am_eq rfl ?_
          refine aw_bipush (npc := 99) (v := 9) (by decide) dX6_step_97 rfl ?_
          refine aw_iload (npc := 101) rfl dX6_step_99 rfl ?_
          refine aw_imulV (npc := 102) (v := 9) dX6_step_101 rfl (by decide) ?_
          refine aw_iaddV (npc := 103) (v := nI (((((36 - (a + b + c + e)) + 9) + 9) + 9) + 9)) dX6_step_102 rfl (nI_add _ 9) ?_
          refine aw_put (npc := 106) dX6_step_103 rfl kf_X6_19 am_eq (Nat.le_of_ble_eq_true rfl) (am_ok_int _) am_uu ?_
          refine aw_iinc (npc := 109) (v := (-1)) (L' := [some (.ref 37), some (.ref 1), some (.int (-1)), some (.int 1), some (.int 1)]) dX6_step_106 rfl rfl (by decide) (by decide) rfl rfl ?_
          refine aw_goto (npc := 2) dX6_step_109 (by decide) ?_
          refine aw_iload_n (npc := 3) rfl dX6_step_2 rfl ?_
          refine aw_if_lt (npc := 6) (tgt := 112) dX6_step_3 rfl (by decide) (fun _ => ?_) (fun hc => absurd (by decide) hc)
          refine aw_vret rfl dX6_step_112 ?_
          refine hq 0 0 0 0 _ ⟨⟨by omega, by omega, by omega, by omega⟩, ?_, (am_ne (by decide) am_eq)⟩ (am_fbU (by decide) (am_fbU (by decide) (am_fbU (by decide) (am_fbU (by decide) (am_fbU (by decide) (am_fbU (by decide) (am_fbU (by decide) (am_fbU (by decide) am_fb0))))))))
          refine (am_eq).trans ?_
          rw [show (((((a + b + c + e) - 9) - 9) - 9) - 9) = (0 + 0 + 0 + 0 : Nat) by omega, show (((((36 - (a + b + c + e)) + 9) + 9) + 9) + 9) = (36 - (0 + 0 + 0 + 0) : Nat) by omega]
          rfl
        · have qa : a < 9 := Nat.lt_of_not_le (fun z => hc4 (nI_le (a := 9) z (by omega)))
          refine aw_aload_n (npc := 41) rfl dX6_step_40 rfl ?_
          refine aw_get (npc := 44) dX6_step_41 rfl kf_X6_9 am_eq rfl ?_
          refine aw_iload_n (npc := 45) rfl dX6_step_44 rfl ?_
          refine aw_dup2 (npc := 46) rfl rfl dX6_step_45 rfl ?_
          refine aw_iald (npc := 47) (x := nI a) (j := 0) dX6_step_46 rfl (am_ne (by decide) am_eq) ⟨by decide, by decide⟩ rfl ?_
          refine aw_iconst (npc := 48) (v := 1) (by decide) dX6_step_47 rfl ?_
          refine aw_iaddV (npc := 49) (v := nI (a + 1)) dX6_step_48 rfl (nI_add _ 1) ?_
          refine aw_iast (npc := 50) (j := 0) dX6_step_49 rfl (am_ne (by decide) am_eq) ⟨by decide, by decide⟩ (Nat.le_of_ble_eq_true rfl) (show _ = am_up _ 38 (.inl (0, [nI (a + 1), 0, 0, 0])) from rfl) ?_
          refine aw_aload_n (npc := 51) rfl dX6_step_50 rfl ?_
          refine aw_dup (npc := 52) rfl dX6_step_51 rfl ?_
          refine aw_get (npc := 55) dX6_step_52 rfl kf_X6_15 (am_ne (by decide) am_eq) rfl ?_
          refine aw_iload_n (npc := 56) rfl dX6_step_55 rfl ?_
          refine aw_iaddV (npc := 57) (v := nI (((((a + b + c + e) - 9) - 9) - 9) + 1)) dX6_step_56 rfl (nI_add _ 1) ?_
          refine aw_put (npc := 60) dX6_step_57 rfl kf_X6_15 (am_ne (by decide) am_eq) (Nat.le_of_ble_eq_true rfl) (am_ok_int _) rfl ?_
          refine aw_aload_n (npc := 61) rfl dX6_step_60 rfl ?_
          refine aw_dup (npc := 62) rfl dX6_step_61 rfl ?_
          refine aw_get (npc := 65) dX6_step_62 rfl kf_X6_19 am_eq rfl ?_
          refine aw_iload (npc := 67) rfl dX6_step_65 rfl ?_
          refine aw_isubV (npc := 68) (v := nI (((((36 - (a + b + c + e)) + 9) + 9) + 9) - 1)) dX6_step_67 rfl (pk_sub (b := 1) (by omega)) ?_
          refine aw_put (npc := 71) dX6_step_68 rfl kf_X6_19 am_eq (Nat.le_of_ble_eq_true rfl) (am_ok_int _) am_uu ?_
          refine aw_vret rfl dX6_step_71 ?_
          refine hq (a + 1) 0 0 0 _ ⟨⟨by omega, by omega, by omega, by omega⟩, ?_, (am_ne (by decide) am_eq)⟩ (am_fbU (by decide) (am_fbU (by decide) (am_fbU (by decide) (am_fbU (by decide) (am_fbU (by decide) (am_fbU (by decide) (am_fbU (by decide) (am_fbU (by decide) am_fb0))))))))
          refine (am_eq).trans ?_
          rw [show (((((a + b + c + e) - 9) - 9) - 9) + 1) = ((a + 1) + 0 + 0 + 0 : Nat) by omega, show (((((36 - (a + b + c + e)) + 9) + 9) + 9) - 1) = (36 - ((a + 1) + 0 + 0 + 0) : Nat) by omega]
          rfl
      · have qb : b < 9 := Nat.lt_of_not_le (fun z => hc3 (nI_le (a := 9) z (by omega)))
        refine aw_aload_n (npc := 41) rfl dX6_step_40 rfl ?_
        refine aw_get (npc := 44) dX6_step_41 rfl kf_X6_9 am_eq rfl ?_
        refine aw_iload_n (npc := 45) rfl dX6_step_44 rfl ?_
        refine aw_dup2 (npc := 46) rfl rfl dX6_step_45 rfl ?_
        refine aw_iald (npc := 47) (x := nI b) (j := 1) dX6_step_46 rfl (am_ne (by decide) am_eq) ⟨by decide, by decide⟩ rfl ?_
        refine aw_iconst (npc := 48) (v := 1) (by decide) dX6_step_47 rfl ?_
        refine aw_iaddV (npc := 49) (v := nI (b + 1)) dX6_step_48 rfl (nI_add _ 1) ?_
        refine aw_iast (npc := 50) (j := 1) dX6_step_49 rfl (am_ne (by decide) am_eq) ⟨by decide, by decide⟩ (Nat.le_of_ble_eq_true rfl) (show _ = am_up _ 38 (.inl (0, [nI a, nI (b + 1), 0, 0])) from rfl) ?_
        refine aw_aload_n (npc := 51) rfl dX6_step_50 rfl ?_
        refine aw_dup (npc := 52) rfl dX6_step_51 rfl ?_
        refine aw_get (npc := 55) dX6_step_52 rfl kf_X6_15 (am_ne (by decide) am_eq) rfl ?_
        refine aw_iload_n (npc := 56) rfl dX6_step_55 rfl ?_
        refine aw_iaddV (npc := 57) (v := nI ((((a + b + c + e) - 9) - 9) + 1)) dX6_step_56 rfl (nI_add _ 1) ?_
        refine aw_put (npc := 60) dX6_step_57 rfl kf_X6_15 (am_ne (by decide) am_eq) (Nat.le_of_ble_eq_true rfl) (am_ok_int _) rfl ?_
        refine aw_aload_n (npc := 61) rfl dX6_step_60 rfl ?_
        refine aw_dup (npc := 62) rfl dX6_step_61 rfl ?_
        refine aw_get (npc := 65) dX6_step_62 rfl kf_X6_19 am_eq rfl ?_
        refine aw_iload (npc := 67) rfl dX6_step_65 rfl ?_
        refine aw_isubV (npc := 68) (v := nI ((((36 - (a + b + c + e)) + 9) + 9) - 1)) dX6_step_67 rfl (pk_sub (b := 1) (by omega)) ?_
        refine aw_put (npc := 71) dX6_step_68 rfl kf_X6_19 am_eq (Nat.le_of_ble_eq_true rfl) (am_ok_int _) am_uu ?_
        refine aw_vret rfl dX6_step_71 ?_
        refine hq a (b + 1) 0 0 _ ⟨⟨by omega, by omega, by omega, by omega⟩, ?_, (am_ne (by decide) am_eq)⟩ (am_fbU (by decide) (am_fbU (by decide) (am_fbU (by decide) (am_fbU (by decide) (am_fbU (by decide) (am_fbU (by decide) am_fb0))))))
        refine (am_eq).trans ?_
        rw [show ((((a + b + c + e) - 9) - 9) + 1) = (a + (b + 1) + 0 + 0 : Nat) by omega, show ((((36 - (a + b + c + e)) + 9) + 9) - 1) = (36 - (a + (b + 1) + 0 + 0) : Nat) by omega]
        rfl
    · have qc : c < 9 := Nat.lt_of_not_le (fun z => hc2 (nI_le (a := 9) z (by omega)))
      refine aw_aload_n (npc := 41) rfl dX6_step_40 rfl ?_
      refine aw_get (npc := 44) dX6_step_41 rfl kf_X6_9 am_eq rfl ?_
      refine aw_iload_n (npc := 45) rfl dX6_step_44 rfl ?_
      refine aw_dup2 (npc := 46) rfl rfl dX6_step_45 rfl ?_
      refine aw_iald (npc := 47) (x := nI c) (j := 2) dX6_step_46 rfl (am_ne (by decide) am_eq) ⟨by decide, by decide⟩ rfl ?_
      refine aw_iconst (npc := 48) (v := 1) (by decide) dX6_step_47 rfl ?_
      refine aw_iaddV (npc := 49) (v := nI (c + 1)) dX6_step_48 rfl (nI_add _ 1) ?_
      refine aw_iast (npc := 50) (j := 2) dX6_step_49 rfl (am_ne (by decide) am_eq) ⟨by decide, by decide⟩ (Nat.le_of_ble_eq_true rfl) (show _ = am_up _ 38 (.inl (0, [nI a, nI b, nI (c + 1), 0])) from rfl) ?_
      refine aw_aload_n (npc := 51) rfl dX6_step_50 rfl ?_
      refine aw_dup (npc := 52) rfl dX6_step_51 rfl ?_
      refine aw_get (npc := 55) dX6_step_52 rfl kf_X6_15 (am_ne (by decide) am_eq) rfl ?_
      refine aw_iload_n (npc := 56) rfl dX6_step_55 rfl ?_
      refine aw_iaddV (npc := 57) (v := nI (((a + b + c + e) - 9) + 1)) dX6_step_56 rfl (nI_add _ 1) ?_
      refine aw_put (npc := 60) dX6_step_57 rfl kf_X6_15 (am_ne (by decide) am_eq) (Nat.le_of_ble_eq_true rfl) (am_ok_int _) rfl ?_
      refine aw_aload_n (npc := 61) rfl dX6_step_60 rfl ?_
      refine aw_dup (npc := 62) rfl dX6_step_61 rfl ?_
      refine aw_get (npc := 65) dX6_step_62 rfl kf_X6_19 am_eq rfl ?_
      refine aw_iload (npc := 67) rfl dX6_step_65 rfl ?_
      refine aw_isubV (npc := 68) (v := nI (((36 - (a + b + c + e)) + 9) - 1)) dX6_step_67 rfl (pk_sub (b := 1) (by omega)) ?_
      refine aw_put (npc := 71) dX6_step_68 rfl kf_X6_19 am_eq (Nat.le_of_ble_eq_true rfl) (am_ok_int _) am_uu ?_
      refine aw_vret rfl dX6_step_71 ?_
      refine hq a b (c + 1) 0 _ ⟨⟨by omega, by omega, by omega, by omega⟩, ?_, (am_ne (by decide) am_eq)⟩ (am_fbU (by decide) (am_fbU (by decide) (am_fbU (by decide) (am_fbU (by decide) am_fb0))))
      refine (am_eq).trans ?_
      rw [show (((a + b + c + e) - 9) + 1) = (a + b + (c + 1) + 0 : Nat) by omega, show (((36 - (a + b + c + e)) + 9) - 1) = (36 - (a + b + (c + 1) + 0) : Nat) by omega]
      rfl
  · have qe : e < 9 := Nat.lt_of_not_le (fun z => hc1 (nI_le (a := 9) z (by omega)))
    refine aw_aload_n (npc := 41) rfl dX6_step_40 rfl ?_
    refine aw_get (npc := 44) dX6_step_41 rfl kf_X6_9 w37 rfl ?_
    refine aw_iload_n (npc := 45) rfl dX6_step_44 rfl ?_
    refine aw_dup2 (npc := 46) rfl rfl dX6_step_45 rfl ?_
    refine aw_iald (npc := 47) (x := nI e) (j := 3) dX6_step_46 rfl w38 ⟨by decide, by decide⟩ rfl ?_
    refine aw_iconst (npc := 48) (v := 1) (by decide) dX6_step_47 rfl ?_
    refine aw_iaddV (npc := 49) (v := nI (e + 1)) dX6_step_48 rfl (nI_add _ 1) ?_
    refine aw_iast (npc := 50) (j := 3) dX6_step_49 rfl w38 ⟨by decide, by decide⟩ (Nat.le_of_ble_eq_true rfl) (show _ = am_up _ 38 (.inl (0, [nI a, nI b, nI c, nI (e + 1)])) from rfl) ?_
    refine aw_aload_n (npc := 51) rfl dX6_step_50 rfl ?_
    refine aw_dup (npc := 52) rfl dX6_step_51 rfl ?_
    refine aw_get (npc := 55) dX6_step_52 rfl kf_X6_15 (am_ne (by decide) w37) rfl ?_
    refine aw_iload_n (npc := 56) rfl dX6_step_55 rfl ?_
    refine aw_iaddV (npc := 57) (v := nI ((a + b + c + e) + 1)) dX6_step_56 rfl (nI_add _ 1) ?_
    refine aw_put (npc := 60) dX6_step_57 rfl kf_X6_15 (am_ne (by decide) w37) (Nat.le_of_ble_eq_true rfl) (am_ok_int _) rfl ?_
    refine aw_aload_n (npc := 61) rfl dX6_step_60 rfl ?_
    refine aw_dup (npc := 62) rfl dX6_step_61 rfl ?_
    refine aw_get (npc := 65) dX6_step_62 rfl kf_X6_19 am_eq rfl ?_
    refine aw_iload (npc := 67) rfl dX6_step_65 rfl ?_
    refine aw_isubV (npc := 68) (v := nI ((36 - (a + b + c + e)) - 1)) dX6_step_67 rfl (pk_sub (b := 1) (by omega)) ?_
    refine aw_put (npc := 71) dX6_step_68 rfl kf_X6_19 am_eq (Nat.le_of_ble_eq_true rfl) (am_ok_int _) am_uu ?_
    refine aw_vret rfl dX6_step_71 ?_
    refine hq a b c (e + 1) _ ⟨⟨by omega, by omega, by omega, by omega⟩, ?_, (am_ne (by decide) am_eq)⟩ (am_fbU (by decide) (am_fbU (by decide) am_fb0))
    refine (am_eq).trans ?_
    rw [show ((a + b + c + e) + 1) = (a + b + c + (e + 1) : Nat) by omega, show ((36 - (a + b + c + e)) - 1) = (36 - (a + b + c + (e + 1)) : Nat) by omega]
    rfl
set_option maxHeartbeats 40000000 in
set_option maxRecDepth 100000 in
theorem p_X6_countTakenL {X : List Int32} {d rc rs nn : Nat} {Q : am_Q} : ∀ (m j : Nat), j + m = 10000 → ∀ (a b c e : Nat) (h : am_H), fq1 0 0 h → fw a b c e h → (∀ h9, am_fb 37 39 h9 h → Q (some (.int 0)) nn h9) → AW X mX6_countTaken (d + 8) rc rs 9 [some (.ref 37), some (.ref 1), some (.int 0), some (.int (nI j))] [] nn h Q := by
  intro m
  induction m with
  | zero =>
    intro j hj a b c e h E F hq
    obtain rfl : j = 10000 := by omega
    refine aw_iload_n (npc := 10) rfl dX6_countTaken_9 rfl ?_
    refine aw_sipush (npc := 13) (v := 10000) (by decide) dX6_countTaken_10 rfl ?_
    refine aw_icmp_ge (npc := 16) (tgt := 38) dX6_countTaken_13 rfl (by decide) (fun _ => ?_) (fun hc => absurd (nI_le (a := 10000) (b := 10000) (by omega) (by omega)) hc)
    refine aw_iload_n (npc := 39) rfl dX6_countTaken_38 rfl ?_
    refine aw_iret rfl dX6_countTaken_39 ?_
    exact hq _ am_fb0
  | succ m ih =>
    intro j hj a b c e h E F hq
    obtain ⟨f1, f2, f3, f4, f5, f6, f7, f8, f9, f10, f11, f12⟩ := E
    refine aw_iload_n (npc := 10) rfl dX6_countTaken_9 rfl ?_
    refine aw_sipush (npc := 13) (v := 10000) (by decide) dX6_countTaken_10 rfl ?_
    refine aw_icmp_ge (npc := 16) (tgt := 38) dX6_countTaken_13 rfl (by decide) (fun hc => absurd hc (nI_ge (a := j) (b := 10000) (by omega) (by omega))) (fun _ => ?_)
    refine aw_aload_n (npc := 17) rfl dX6_countTaken_16 rfl ?_
    refine aw_aload_n (npc := 18) rfl dX6_countTaken_17 rfl ?_
    refine aw_callV (npc := 21) (N := mX6_spare) (b := 37) (mc := 0) (ms := 0) (A := [.ref 1]) (S := []) (L0 := [some (.ref 37), some (.ref 1)]) dX6_countTaken_18 rfl km_X6_spare kk_X6_26 F.2.1 ⟨by decide, rfl⟩ rfl ⟨rfl, by decide⟩ rfl (Nat.le_of_ble_eq_true rfl) (Nat.zero_add _) (Nat.zero_add _) rfl ?_
    refine p_spare ⟨f1, f2, f3, f4, f5, f6, f7, f8, f9, f10, f11, f12⟩ F (fun r2 hr3 => ?_)
    refine aw_re (S' := [.int r2]) rfl ?_
    refine aw_if_lt (npc := 24) (tgt := 27) dX6_countTaken_21 rfl (by decide) (fun _ => ?_) (fun hc => absurd (hr3) hc)
    refine aw_aload_n (npc := 28) rfl dX6_countTaken_27 rfl ?_
    refine aw_aload_n (npc := 29) rfl dX6_countTaken_28 rfl ?_
    refine aw_callV (npc := 32) (N := mX6_step) (b := 37) (mc := 0) (ms := 0) (A := [.ref 1]) (S := []) (L0 := [some (.ref 37), some (.ref 1), none, none, none]) dX6_countTaken_29 rfl km_X6_step kk_X6_30 F.2.1 ⟨by decide, rfl⟩ rfl ⟨rfl, by decide⟩ rfl (Nat.le_of_ble_eq_true rfl) (Nat.zero_add _) (Nat.zero_add _) rfl ?_
    refine p_step ⟨f1, f2, f3, f4, f5, f6, f7, f8, f9, f10, f11, f12⟩ F (fun a2 b2 c2 e2 h9 F2 fz5 => ?_)
    refine aw_iinc (npc := 35) (v := nI (j + 1)) (L' := [some (.ref 37), some (.ref 1), some (.int 0), some (.int (nI (j + 1)))]) dX6_countTaken_32 rfl rfl (nI_1 j) (by decide) rfl rfl ?_
    refine aw_goto (npc := 9) dX6_countTaken_35 (by decide) ?_
    exact ih (j + 1) (by omega) a2 b2 c2 e2 _ ⟨((fz5 1 (by decide)).trans f1), ((fz5 2 (by decide)).trans f2), ((fz5 3 (by decide)).trans f3), ((fz5 4 (by decide)).trans f4), ((fz5 5 (by decide)).trans f5), ((fz5 6 (by decide)).trans f6), ((fz5 7 (by decide)).trans f7), ((fz5 8 (by decide)).trans f8), ((fz5 9 (by decide)).trans f9), ((fz5 10 (by decide)).trans f10), ((fz5 11 (by decide)).trans f11), ((fz5 12 (by decide)).trans f12)⟩ F2 (fun h9 fy => hq h9 (am_fbT fy fz5))
set_option maxHeartbeats 40000000 in
set_option maxRecDepth 100000 in
theorem p_X6_fairestL {X : List Int32} {d rc rs nn : Nat} {Q : am_Q} : ∀ (m j : Nat), j + m = 10000 → ∀ (v5 : Option Value), ∀ (a b c e : Nat) (h : am_H), fq1 0 0 h → fw a b c e h → (∀ h9, am_fb 37 39 h9 h → Q (some (.int (-1))) nn h9) → AW X mX6_fairest (d + 8) rc rs 12 [some (.ref 37), some (.ref 1), some (.int (-1)), some (.int (-1)), some (.int (nI j)), v5] [] nn h Q := by
  intro m
  induction m with
  | zero =>
    intro j hj v5 a b c e h E F hq
    obtain rfl : j = 10000 := by omega
    refine aw_iload (npc := 14) rfl dX6_fairest_12 rfl ?_
    refine aw_sipush (npc := 17) (v := 10000) (by decide) dX6_fairest_14 rfl ?_
    refine aw_icmp_ge (npc := 20) (tgt := 50) dX6_fairest_17 rfl (by decide) (fun _ => ?_) (fun hc => absurd (nI_le (a := 10000) (b := 10000) (by omega) (by omega)) hc)
    refine aw_iload_n (npc := 51) rfl dX6_fairest_50 rfl ?_
    refine aw_iret rfl dX6_fairest_51 ?_
    exact hq _ am_fb0
  | succ m ih =>
    intro j hj v5 a b c e h E F hq
    obtain ⟨f1, f2, f3, f4, f5, f6, f7, f8, f9, f10, f11, f12⟩ := E
    refine aw_iload (npc := 14) rfl dX6_fairest_12 rfl ?_
    refine aw_sipush (npc := 17) (v := 10000) (by decide) dX6_fairest_14 rfl ?_
    refine aw_icmp_ge (npc := 20) (tgt := 50) dX6_fairest_17 rfl (by decide) (fun hc => absurd hc (nI_ge (a := j) (b := 10000) (by omega) (by omega))) (fun _ => ?_)
    refine aw_aload_n (npc := 21) rfl dX6_fairest_20 rfl ?_
    refine aw_aload_n (npc := 22) rfl dX6_fairest_21 rfl ?_
    refine aw_callV (npc := 25) (N := mX6_spare) (b := 37) (mc := 0) (ms := 0) (A := [.ref 1]) (S := []) (L0 := [some (.ref 37), some (.ref 1)]) dX6_fairest_22 rfl km_X6_spare kk_X6_26 F.2.1 ⟨by decide, rfl⟩ rfl ⟨rfl, by decide⟩ rfl (Nat.le_of_ble_eq_true rfl) (Nat.zero_add _) (Nat.zero_add _) rfl ?_
    refine p_spare ⟨f1, f2, f3, f4, f5, f6, f7, f8, f9, f10, f11, f12⟩ F (fun r2 hr3 => ?_)
    refine aw_re (S' := [.int r2]) rfl ?_
    refine aw_istore (npc := 27) (L' := [some (.ref 37), some (.ref 1), some (.int (-1)), some (.int (-1)), some (.int (nI j)), some (.int r2)]) dX6_fairest_25 rfl (by decide) rfl rfl ?_
    refine aw_iload (npc := 29) rfl dX6_fairest_27 rfl ?_
    refine aw_iload_n (npc := 30) rfl dX6_fairest_29 rfl ?_
    refine aw_icmp_le (npc := 33) (tgt := 39) dX6_fairest_30 rfl (by decide) (fun _ => ?_) (fun hc => absurd (lt0_le hr3) hc)
    refine aw_aload_n (npc := 40) rfl dX6_fairest_39 rfl ?_
    refine aw_aload_n (npc := 41) rfl dX6_fairest_40 rfl ?_
    refine aw_callV (npc := 44) (N := mX6_step) (b := 37) (mc := 0) (ms := 0) (A := [.ref 1]) (S := []) (L0 := [some (.ref 37), some (.ref 1), none, none, none]) dX6_fairest_41 rfl km_X6_step kk_X6_30 F.2.1 ⟨by decide, rfl⟩ rfl ⟨rfl, by decide⟩ rfl (Nat.le_of_ble_eq_true rfl) (Nat.zero_add _) (Nat.zero_add _) rfl ?_
    refine p_step ⟨f1, f2, f3, f4, f5, f6, f7, f8, f9, f10, f11, f12⟩ F (fun a2 b2 c2 e2 h9 F2 fz5 => ?_)
    refine aw_iinc (npc := 47) (v := nI (j + 1)) (L' := [some (.ref 37), some (.ref 1), some (.int (-1)), some (.int (-1)), some (.int (nI (j + 1))), some (.int r2)]) dX6_fairest_44 rfl rfl (nI_1 j) (by decide) rfl rfl ?_
    refine aw_goto (npc := 12) dX6_fairest_47 (by decide) ?_
    exact ih (j + 1) (by omega) _ a2 b2 c2 e2 _ ⟨((fz5 1 (by decide)).trans f1), ((fz5 2 (by decide)).trans f2), ((fz5 3 (by decide)).trans f3), ((fz5 4 (by decide)).trans f4), ((fz5 5 (by decide)).trans f5), ((fz5 6 (by decide)).trans f6), ((fz5 7 (by decide)).trans f7), ((fz5 8 (by decide)).trans f8), ((fz5 9 (by decide)).trans f9), ((fz5 10 (by decide)).trans f10), ((fz5 11 (by decide)).trans f11), ((fz5 12 (by decide)).trans f12)⟩ F2 (fun h9 fy => hq h9 (am_fbT fy fz5))
set_option maxHeartbeats 40000000 in
set_option maxRecDepth 100000 in
theorem p_X6_nearestL {X : List Int32} {d rc rs nn : Nat} {Q : am_Q} : ∀ (m j : Nat), j + m = 10000 → ∀ (a b c e : Nat) (h : am_H), fq1 0 0 h → fw a b c e h → (∀ h9, am_fb 37 39 h9 h → Q (some (.int (-1))) nn h9) → AW X mX6_nearest (d + 8) rc rs 12 [some (.ref 37), some (.ref 1), some (.int (-1)), some (.int 0), some (.int (nI j)), none] [] nn h Q := by
  intro m
  induction m with
  | zero =>
    intro j hj a b c e h E F hq
    obtain rfl : j = 10000 := by omega
    refine aw_iload (npc := 14) rfl dX6_nearest_12 rfl ?_
    refine aw_sipush (npc := 17) (v := 10000) (by decide) dX6_nearest_14 rfl ?_
    refine aw_icmp_ge (npc := 20) (tgt := 62) dX6_nearest_17 rfl (by decide) (fun _ => ?_) (fun hc => absurd (nI_le (a := 10000) (b := 10000) (by omega) (by omega)) hc)
    refine aw_iload_n (npc := 63) rfl dX6_nearest_62 rfl ?_
    refine aw_iret rfl dX6_nearest_63 ?_
    exact hq _ am_fb0
  | succ m ih =>
    intro j hj a b c e h E F hq
    obtain ⟨f1, f2, f3, f4, f5, f6, f7, f8, f9, f10, f11, f12⟩ := E
    refine aw_iload (npc := 14) rfl dX6_nearest_12 rfl ?_
    refine aw_sipush (npc := 17) (v := 10000) (by decide) dX6_nearest_14 rfl ?_
    refine aw_icmp_ge (npc := 20) (tgt := 62) dX6_nearest_17 rfl (by decide) (fun hc => absurd hc (nI_ge (a := j) (b := 10000) (by omega) (by omega))) (fun _ => ?_)
    refine aw_aload_n (npc := 21) rfl dX6_nearest_20 rfl ?_
    refine aw_aload_n (npc := 22) rfl dX6_nearest_21 rfl ?_
    refine aw_callV (npc := 25) (N := mX6_spare) (b := 37) (mc := 0) (ms := 0) (A := [.ref 1]) (S := []) (L0 := [some (.ref 37), some (.ref 1)]) dX6_nearest_22 rfl km_X6_spare kk_X6_26 F.2.1 ⟨by decide, rfl⟩ rfl ⟨rfl, by decide⟩ rfl (Nat.le_of_ble_eq_true rfl) (Nat.zero_add _) (Nat.zero_add _) rfl ?_
    refine p_spare ⟨f1, f2, f3, f4, f5, f6, f7, f8, f9, f10, f11, f12⟩ F (fun r2 hr3 => ?_)
    refine aw_re (S' := [.int r2]) rfl ?_
    refine aw_if_lt (npc := 28) (tgt := 51) dX6_nearest_25 rfl (by decide) (fun _ => ?_) (fun hc => absurd (hr3) hc)
    refine aw_aload_n (npc := 52) rfl dX6_nearest_51 rfl ?_
    refine aw_aload_n (npc := 53) rfl dX6_nearest_52 rfl ?_
    refine aw_callV (npc := 56) (N := mX6_step) (b := 37) (mc := 0) (ms := 0) (A := [.ref 1]) (S := []) (L0 := [some (.ref 37), some (.ref 1), none, none, none]) dX6_nearest_53 rfl km_X6_step kk_X6_30 F.2.1 ⟨by decide, rfl⟩ rfl ⟨rfl, by decide⟩ rfl (Nat.le_of_ble_eq_true rfl) (Nat.zero_add _) (Nat.zero_add _) rfl ?_
    refine p_step ⟨f1, f2, f3, f4, f5, f6, f7, f8, f9, f10, f11, f12⟩ F (fun a2 b2 c2 e2 h9 F2 fz5 => ?_)
    refine aw_iinc (npc := 59) (v := nI (j + 1)) (L' := [some (.ref 37), some (.ref 1), some (.int (-1)), some (.int 0), some (.int (nI (j + 1))), none]) dX6_nearest_56 rfl rfl (nI_1 j) (by decide) rfl rfl ?_
    refine aw_goto (npc := 12) dX6_nearest_59 (by decide) ?_
    exact ih (j + 1) (by omega) a2 b2 c2 e2 _ ⟨((fz5 1 (by decide)).trans f1), ((fz5 2 (by decide)).trans f2), ((fz5 3 (by decide)).trans f3), ((fz5 4 (by decide)).trans f4), ((fz5 5 (by decide)).trans f5), ((fz5 6 (by decide)).trans f6), ((fz5 7 (by decide)).trans f7), ((fz5 8 (by decide)).trans f8), ((fz5 9 (by decide)).trans f9), ((fz5 10 (by decide)).trans f10), ((fz5 11 (by decide)).trans f11), ((fz5 12 (by decide)).trans f12)⟩ F2 (fun h9 fy => hq h9 (am_fbT fy fz5))
set_option maxHeartbeats 40000000 in
set_option maxRecDepth 100000 in
theorem p_X7_taken {X : List Int32} {d rc rs : Nat} {h : am_H} {Q : am_Q} (F : f0_X7 h) (hq : ∀ h9, am_fr 69 h9 h → Q (some (.int (sp_taken))) 92 h9) : AW X mX7_taken (d + 14) rc rs 0 [some (.ref 0)] [] 92 h Q := by
  obtain ⟨f0, f1, f2, f3, f4, f5, f6, f7, f8, f9, f10, f11, f12, -, -, -, -, -, -, -, -, -, -, -, -, -, -, -, -, -, -, -, -, -, -, -, -, f37, f38, -, -, -, -, -, -, -, -, -, -, -, -, -, -, -, -, -, -, -, -, -, -, -, -, -, -, -, -, -, -⟩ := F
  refine aw_aload_n (npc := 1) rfl dX7_taken_0 rfl ?_
  refine aw_get (npc := 4) dX7_taken_1 rfl kf_X7_29 f0 rfl ?_
  refine aw_aload_n (npc := 5) rfl dX7_taken_4 rfl ?_
  refine aw_get (npc := 8) dX7_taken_5 rfl kf_X7_10 f0 rfl ?_
  refine aw_callV (npc := 11) (N := mX6_countTaken) (b := 37) (mc := 0) (ms := 0) (A := [.ref 1]) (S := []) (L0 := [some (.ref 37), some (.ref 1), none, none]) dX7_taken_8 rfl km_X6_countTaken kk_X7_183 f37 ⟨by decide, rfl⟩ rfl ⟨rfl, by decide⟩ rfl (Nat.le_of_ble_eq_true rfl) (Nat.zero_add _) (Nat.zero_add _) rfl ?_
  refine aw_iconst (npc := 1) (v := 0) (by decide) dX6_countTaken_0 rfl ?_
  refine aw_istore_n (npc := 2) (L' := [some (.ref 37), some (.ref 1), some (.int 0), none]) dX6_countTaken_1 rfl (by decide) rfl rfl ?_
  refine aw_aload_n (npc := 3) rfl dX6_countTaken_2 rfl ?_
  refine aw_aload_n (npc := 4) rfl dX6_countTaken_3 rfl ?_
  refine aw_callV (npc := 7) (N := mX6_start) (b := 37) (mc := 0) (ms := 0) (A := [.ref 1]) (S := []) (L0 := [some (.ref 37), some (.ref 1), none]) dX6_countTaken_4 rfl km_X6_start kk_X6_22 f37 ⟨by decide, rfl⟩ rfl ⟨rfl, by decide⟩ rfl (Nat.le_of_ble_eq_true rfl) (Nat.zero_add _) (Nat.zero_add _) rfl ?_
  refine aw_aload_n (npc := 1) rfl dX6_start_0 rfl ?_
  refine aw_iconst (npc := 2) (v := 0) (by decide) dX6_start_1 rfl ?_
  refine aw_put (npc := 5) dX6_start_2 rfl kf_X6_15 f37 (Nat.le_of_ble_eq_true rfl) (am_ok_int _) rfl ?_
  refine aw_aload_n (npc := 6) rfl dX6_start_5 rfl ?_
  refine aw_iconst (npc := 7) (v := 0) (by decide) dX6_start_6 rfl ?_
  refine aw_put (npc := 10) dX6_start_7 rfl kf_X6_19 am_eq (Nat.le_of_ble_eq_true rfl) (am_ok_int _) am_uu ?_
  refine aw_iconst (npc := 11) (v := 0) (by decide) dX6_start_10 rfl ?_
  refine aw_istore_n (npc := 12) (L' := [some (.ref 37), some (.ref 1), some (.int 0)]) dX6_start_11 rfl (by decide) rfl rfl ?_
  refine aw_iload_n (npc := 13) rfl dX6_start_12 rfl ?_
  refine aw_iconst (npc := 14) (v := 4) (by decide) dX6_start_13 rfl ?_
  refine aw_icmp_ge (npc := 17) (tgt := 52) dX6_start_14 rfl (by decide) (fun hc => absurd hc (by decide)) (fun _ => ?_)
  refine aw_aload_n (npc := 18) rfl dX6_start_17 rfl ?_
  refine aw_get (npc := 21) dX6_start_18 rfl kf_X6_9 am_eq rfl ?_
  refine aw_iload_n (npc := 22) rfl dX6_start_21 rfl ?_
  refine aw_iconst (npc := 23) (v := 0) (by decide) dX6_start_22 rfl ?_
  refine aw_iast (npc := 24) (j := 0) dX6_start_23 rfl (am_ne (by decide) f38) ⟨by decide, by decide⟩ (Nat.le_of_ble_eq_true rfl) (show _ = am_up _ 38 (.inl (0, [0, 0, 0, 0])) from rfl) ?_
  refine aw_aload_n (npc := 25) rfl dX6_start_24 rfl ?_
  refine aw_dup (npc := 26) rfl dX6_start_25 rfl ?_
  refine aw_get (npc := 29) dX6_start_26 rfl kf_X6_19 (am_ne (by decide) am_eq) rfl ?_
  refine aw_bipush (npc := 31) (v := 9) (by decide) dX6_start_29 rfl ?_
  refine aw_aload_n (npc := 32) rfl dX6_start_31 rfl ?_
  refine aw_get (npc := 35) dX6_start_32 rfl kf_X6_36 (am_ne (by decide) (am_ne (by decide) f1)) rfl ?_
  refine aw_iconst (npc := 36) (v := 1) (by decide) dX6_start_35 rfl ?_
  refine aw_iload_n (npc := 37) rfl dX6_start_36 rfl ?_
  refine aw_callSN (npc := 40) (N := mX7_carePlace) (mc := 0) (ms := 0) (A := [.int 1, .int 0]) (S := [.ref 3, .int 9, .int 0, .ref 37]) (L0 := [some (.int 1), some (.int 0)]) dX6_start_37 rfl km_X7_carePlace kk_X6_41 rfl ⟨rfl, by decide⟩ rfl (Nat.le_of_ble_eq_true rfl) (Nat.zero_add _) (Nat.zero_add _) rfl ?_
  refine aw_iload_n (npc := 1) rfl dX7_carePlace_0 rfl ?_
  refine aw_iconst (npc := 2) (v := 4) (by decide) dX7_carePlace_1 rfl ?_
  refine aw_imulV (npc := 3) (v := 4) dX7_carePlace_2 rfl (by decide) ?_
  refine aw_iload_n (npc := 4) rfl dX7_carePlace_3 rfl ?_
  refine aw_iaddV (npc := 5) (v := 4) dX7_carePlace_4 rfl (by decide) ?_
  refine aw_iret rfl dX7_carePlace_5 ?_
  refine aw_re (S' := [.int 4, .ref 3, .int 9, .int 0, .ref 37]) rfl ?_
  refine aw_iald (npc := 41) (x := 1) (j := 4) dX6_start_40 rfl (am_ne (by decide) (am_ne (by decide) f3)) ⟨by decide, by decide⟩ rfl ?_
  refine aw_imulV (npc := 42) (v := 9) dX6_start_41 rfl (by decide) ?_
  refine aw_iaddV (npc := 43) (v := 9) dX6_start_42 rfl (by decide) ?_
  refine aw_put (npc := 46) dX6_start_43 rfl kf_X6_19 (am_ne (by decide) am_eq) (Nat.le_of_ble_eq_true rfl) (am_ok_int _) rfl ?_
  refine aw_iinc (npc := 49) (v := 1) (L' := [some (.ref 37), some (.ref 1), some (.int 1)]) dX6_start_46 rfl rfl (by decide) (by decide) rfl rfl ?_
  refine aw_goto (npc := 12) dX6_start_49 (by decide) ?_
  refine aw_iload_n (npc := 13) rfl dX6_start_12 rfl ?_
  refine aw_iconst (npc := 14) (v := 4) (by decide) dX6_start_13 rfl ?_
  refine aw_icmp_ge (npc := 17) (tgt := 52) dX6_start_14 rfl (by decide) (fun hc => absurd hc (by decide)) (fun _ => ?_)
  refine aw_aload_n (npc := 18) rfl dX6_start_17 rfl ?_
  refine aw_get (npc := 21) dX6_start_18 rfl kf_X6_9 am_eq rfl ?_
  refine aw_iload_n (npc := 22) rfl dX6_start_21 rfl ?_
  refine aw_iconst (npc := 23) (v := 0) (by decide) dX6_start_22 rfl ?_
  refine aw_iast (npc := 24) (j := 1) dX6_start_23 rfl (am_ne (by decide) am_eq) ⟨by decide, by decide⟩ (Nat.le_of_ble_eq_true rfl) (show _ = am_up _ 38 (.inl (0, [0, 0, 0, 0])) from rfl) ?_
  refine aw_aload_n (npc := 25) rfl dX6_start_24 rfl ?_
  refine aw_dup (npc := 26) rfl dX6_start_25 rfl ?_
  refine aw_get (npc := 29) dX6_start_26 rfl kf_X6_19 (am_ne (by decide) am_eq) rfl ?_
  refine aw_bipush (npc := 31) (v := 9) (by decide) dX6_start_29 rfl ?_
  refine aw_aload_n (npc := 32) rfl dX6_start_31 rfl ?_
  refine aw_get (npc := 35) dX6_start_32 rfl kf_X6_36 (am_ne (by decide) (am_ne (by decide) (am_ne (by decide) (am_ne (by decide) f1)))) rfl ?_
  refine aw_iconst (npc := 36) (v := 1) (by decide) dX6_start_35 rfl ?_
  refine aw_iload_n (npc := 37) rfl dX6_start_36 rfl ?_
  refine aw_callSN (npc := 40) (N := mX7_carePlace) (mc := 0) (ms := 0) (A := [.int 1, .int 1]) (S := [.ref 3, .int 9, .int 9, .ref 37]) (L0 := [some (.int 1), some (.int 1)]) dX6_start_37 rfl km_X7_carePlace kk_X6_41 rfl ⟨rfl, by decide⟩ rfl (Nat.le_of_ble_eq_true rfl) (Nat.zero_add _) (Nat.zero_add _) rfl ?_
  refine aw_iload_n (npc := 1) rfl dX7_carePlace_0 rfl ?_
  refine aw_iconst (npc := 2) (v := 4) (by decide) dX7_carePlace_1 rfl ?_
  refine aw_imulV (npc := 3) (v := 4) dX7_carePlace_2 rfl (by decide) ?_
  refine aw_iload_n (npc := 4) rfl dX7_carePlace_3 rfl ?_
  refine aw_iaddV (npc := 5) (v := 5) dX7_carePlace_4 rfl (by decide) ?_
  refine aw_iret rfl dX7_carePlace_5 ?_
  refine aw_re (S' := [.int 5, .ref 3, .int 9, .int 9, .ref 37]) rfl ?_
  refine aw_iald (npc := 41) (x := 1) (j := 5) dX6_start_40 rfl (am_ne (by decide) (am_ne (by decide) (am_ne (by decide) (am_ne (by decide) f3)))) ⟨by decide, by decide⟩ rfl ?_
  refine aw_imulV (npc := 42) (v := 9) dX6_start_41 rfl (by decide) ?_
  refine aw_iaddV (npc := 43) (v := 18) dX6_start_42 rfl (by decide) ?_
  refine aw_put (npc := 46) dX6_start_43 rfl kf_X6_19 (am_ne (by decide) am_eq) (Nat.le_of_ble_eq_true rfl) (am_ok_int _) rfl ?_
  refine aw_iinc (npc := 49) (v := 2) (L' := [some (.ref 37), some (.ref 1), some (.int 2)]) dX6_start_46 rfl rfl (by decide) (by decide) rfl rfl ?_
  refine aw_goto (npc := 12) dX6_start_49 (by decide) ?_
  refine aw_iload_n (npc := 13) rfl dX6_start_12 rfl ?_
  refine aw_iconst (npc := 14) (v := 4) (by decide) dX6_start_13 rfl ?_
  refine aw_icmp_ge (npc := 17) (tgt := 52) dX6_start_14 rfl (by decide) (fun hc => absurd hc (by decide)) (fun _ => ?_)
  refine aw_aload_n (npc := 18) rfl dX6_start_17 rfl ?_
  refine aw_get (npc := 21) dX6_start_18 rfl kf_X6_9 am_eq rfl ?_
  refine aw_iload_n (npc := 22) rfl dX6_start_21 rfl ?_
  refine aw_iconst (npc := 23) (v := 0) (by decide) dX6_start_22 rfl ?_
  refine aw_iast (npc := 24) (j := 2) dX6_start_23 rfl (am_ne (by decide) am_eq) ⟨by decide, by decide⟩ (Nat.le_of_ble_eq_true rfl) (show _ = am_up _ 38 (.inl (0, [0, 0, 0, 0])) from rfl) ?_
  refine aw_aload_n (npc := 25) rfl dX6_start_24 rfl ?_
  refine aw_dup (npc := 26) rfl dX6_start_25 rfl ?_
  refine aw_get (npc := 29) dX6_start_26 rfl kf_X6_19 (am_ne (by decide) am_eq) rfl ?_
  refine aw_bipush (npc := 31) (v := 9) (by decide) dX6_start_29 rfl ?_
  refine aw_aload_n (npc := 32) rfl dX6_start_31 rfl ?_
  refine aw_get (npc := 35) dX6_start_32 rfl kf_X6_36 (am_ne (by decide) (am_ne (by decide) (am_ne (by decide) (am_ne (by decide) (am_ne (by decide) (am_ne (by decide) f1)))))) rfl ?_
  refine aw_iconst (npc := 36) (v := 1) (by decide) dX6_start_35 rfl ?_
  refine aw_iload_n (npc := 37) rfl dX6_start_36 rfl ?_
  refine aw_callSN (npc := 40) (N := mX7_carePlace) (mc := 0) (ms := 0) (A := [.int 1, .int 2]) (S := [.ref 3, .int 9, .int 18, .ref 37]) (L0 := [some (.int 1), some (.int 2)]) dX6_start_37 rfl km_X7_carePlace kk_X6_41 rfl ⟨rfl, by decide⟩ rfl (Nat.le_of_ble_eq_true rfl) (Nat.zero_add _) (Nat.zero_add _) rfl ?_
  refine aw_iload_n (npc := 1) rfl dX7_carePlace_0 rfl ?_
  refine aw_iconst (npc := 2) (v := 4) (by decide) dX7_carePlace_1 rfl ?_
  refine aw_imulV (npc := 3) (v := 4) dX7_carePlace_2 rfl (by decide) ?_
  refine aw_iload_n (npc := 4) rfl dX7_carePlace_3 rfl ?_
  refine aw_iaddV (npc := 5) (v := 6) dX7_carePlace_4 rfl (by decide) ?_
  refine aw_iret rfl dX7_carePlace_5 ?_
  refine aw_re (S' := [.int 6, .ref 3, .int 9, .int 18, .ref 37]) rfl ?_
  refine aw_iald (npc := 41) (x := 1) (j := 6) dX6_start_40 rfl (am_ne (by decide) (am_ne (by decide) (am_ne (by decide) (am_ne (by decide) (am_ne (by decide) (am_ne (by decide) f3)))))) ⟨by decide, by decide⟩ rfl ?_
  refine aw_imulV (npc := 42) (v := 9) dX6_start_41 rfl (by decide) ?_
  refine aw_iaddV (npc := 43) (v := 27) dX6_start_42 rfl (by decide) ?_
  refine aw_put (npc := 46) dX6_start_43 rfl kf_X6_19 (am_ne (by decide) am_eq) (Nat.le_of_ble_eq_true rfl) (am_ok_int _) rfl ?_
  refine aw_iinc (npc := 49) (v := 3) (L' := [some (.ref 37), some (.ref 1), some (.int 3)]) dX6_start_46 rfl rfl (by decide) (by decide) rfl rfl ?_
  refine aw_goto (npc := 12) dX6_start_49 (by decide) ?_
  refine aw_iload_n (npc := 13) rfl dX6_start_12 rfl ?_
  refine aw_iconst (npc := 14) (v := 4) (by decide) dX6_start_13 rfl ?_
  refine aw_icmp_ge (npc := 17) (tgt := 52) dX6_start_14 rfl (by decide) (fun hc => absurd hc (by decide)) (fun _ => ?_)
  refine aw_aload_n (npc := 18) rfl dX6_start_17 rfl ?_
  refine aw_get (npc := 21) dX6_start_18 rfl kf_X6_9 am_eq rfl ?_
  refine aw_iload_n (npc := 22) rfl dX6_start_21 rfl ?_
  refine aw_iconst (npc := 23) (v := 0) (by decide) dX6_start_22 rfl ?_
  refine aw_iast (npc := 24) (j := 3) dX6_start_23 rfl (am_ne (by decide) am_eq) ⟨by decide, by decide⟩ (Nat.le_of_ble_eq_true rfl) (show _ = am_up _ 38 (.inl (0, [0, 0, 0, 0])) from rfl) ?_
  refine aw_aload_n (npc := 25) rfl dX6_start_24 rfl ?_
  refine aw_dup (npc := 26) rfl dX6_start_25 rfl ?_
  refine aw_get (npc := 29) dX6_start_26 rfl kf_X6_19 (am_ne (by decide) am_eq) rfl ?_
  refine aw_bipush (npc := 31) (v := 9) (by decide) dX6_start_29 rfl ?_
  refine aw_aload_n (npc := 32) rfl dX6_start_31 rfl ?_
  refine aw_get (npc := 35) dX6_start_32 rfl kf_X6_36 (am_ne (by decide) (am_ne (by decide) (am_ne (by decide) (am_ne (by decide) (am_ne (by decide) (am_ne (by decide) (am_ne (by decide) (am_ne (by decide) f1)))))))) rfl ?_
  refine aw_iconst (npc := 36) (v := 1) (by decide) dX6_start_35 rfl ?_
  refine aw_iload_n (npc := 37) rfl dX6_start_36 rfl ?_
  refine aw_callSN (npc := 40) (N := mX7_carePlace) (mc := 0) (ms := 0) (A := [.int 1, .int 3]) (S := [.ref 3, .int 9, .int 27, .ref 37]) (L0 := [some (.int 1), some (.int 3)]) dX6_start_37 rfl km_X7_carePlace kk_X6_41 rfl ⟨rfl, by decide⟩ rfl (Nat.le_of_ble_eq_true rfl) (Nat.zero_add _) (Nat.zero_add _) rfl ?_
  refine aw_iload_n (npc := 1) rfl dX7_carePlace_0 rfl ?_
  refine aw_iconst (npc := 2) (v := 4) (by decide) dX7_carePlace_1 rfl ?_
  refine aw_imulV (npc := 3) (v := 4) dX7_carePlace_2 rfl (by decide) ?_
  refine aw_iload_n (npc := 4) rfl dX7_carePlace_3 rfl ?_
  refine aw_iaddV (npc := 5) (v := 7) dX7_carePlace_4 rfl (by decide) ?_
  refine aw_iret rfl dX7_carePlace_5 ?_
  refine aw_re (S' := [.int 7, .ref 3, .int 9, .int 27, .ref 37]) rfl ?_
  refine aw_iald (npc := 41) (x := 1) (j := 7) dX6_start_40 rfl (am_ne (by decide) (am_ne (by decide) (am_ne (by decide) (am_ne (by decide) (am_ne (by decide) (am_ne (by decide) (am_ne (by decide) (am_ne (by decide) f3)))))))) ⟨by decide, by decide⟩ rfl ?_
  refine aw_imulV (npc := 42) (v := 9) dX6_start_41 rfl (by decide) ?_
  refine aw_iaddV (npc := 43) (v := 36) dX6_start_42 rfl (by decide) ?_
  refine aw_put (npc := 46) dX6_start_43 rfl kf_X6_19 (am_ne (by decide) am_eq) (Nat.le_of_ble_eq_true rfl) (am_ok_int _) rfl ?_
  refine aw_iinc (npc := 49) (v := 4) (L' := [some (.ref 37), some (.ref 1), some (.int 4)]) dX6_start_46 rfl rfl (by decide) (by decide) rfl rfl ?_
  refine aw_goto (npc := 12) dX6_start_49 (by decide) ?_
  refine aw_iload_n (npc := 13) rfl dX6_start_12 rfl ?_
  refine aw_iconst (npc := 14) (v := 4) (by decide) dX6_start_13 rfl ?_
  refine aw_icmp_ge (npc := 17) (tgt := 52) dX6_start_14 rfl (by decide) (fun _ => ?_) (fun hc => absurd (by decide) hc)
  refine aw_vret rfl dX6_start_52 ?_
  refine aw_iconst (npc := 8) (v := 0) (by decide) dX6_countTaken_7 rfl ?_
  refine aw_istore_n (npc := 9) (L' := [some (.ref 37), some (.ref 1), some (.int 0), some (.int 0)]) dX6_countTaken_8 rfl (by decide) rfl rfl ?_
  refine aw_locs (L' := [some (.ref 37), some (.ref 1), some (.int 0), some (.int (nI 0))]) rfl ?_
  refine p_X6_countTakenL 10000 0 (by omega) 0 0 0 0 _ ⟨(am_ne (by decide) (am_ne (by decide) (am_ne (by decide) (am_ne (by decide) (am_ne (by decide) (am_ne (by decide) (am_ne (by decide) (am_ne (by decide) (am_ne (by decide) f1))))))))), (am_ne (by decide) (am_ne (by decide) (am_ne (by decide) (am_ne (by decide) (am_ne (by decide) (am_ne (by decide) (am_ne (by decide) (am_ne (by decide) (am_ne (by decide) f2))))))))), (am_ne (by decide) (am_ne (by decide) (am_ne (by decide) (am_ne (by decide) (am_ne (by decide) (am_ne (by decide) (am_ne (by decide) (am_ne (by decide) (am_ne (by decide) f3))))))))), (am_ne (by decide) (am_ne (by decide) (am_ne (by decide) (am_ne (by decide) (am_ne (by decide) (am_ne (by decide) (am_ne (by decide) (am_ne (by decide) (am_ne (by decide) f4))))))))), (am_ne (by decide) (am_ne (by decide) (am_ne (by decide) (am_ne (by decide) (am_ne (by decide) (am_ne (by decide) (am_ne (by decide) (am_ne (by decide) (am_ne (by decide) f5))))))))), (am_ne (by decide) (am_ne (by decide) (am_ne (by decide) (am_ne (by decide) (am_ne (by decide) (am_ne (by decide) (am_ne (by decide) (am_ne (by decide) (am_ne (by decide) f6))))))))), (am_ne (by decide) (am_ne (by decide) (am_ne (by decide) (am_ne (by decide) (am_ne (by decide) (am_ne (by decide) (am_ne (by decide) (am_ne (by decide) (am_ne (by decide) f7))))))))), (am_ne (by decide) (am_ne (by decide) (am_ne (by decide) (am_ne (by decide) (am_ne (by decide) (am_ne (by decide) (am_ne (by decide) (am_ne (by decide) (am_ne (by decide) f8))))))))), (am_ne (by decide) (am_ne (by decide) (am_ne (by decide) (am_ne (by decide) (am_ne (by decide) (am_ne (by decide) (am_ne (by decide) (am_ne (by decide) (am_ne (by decide) f9))))))))), (am_ne (by decide) (am_ne (by decide) (am_ne (by decide) (am_ne (by decide) (am_ne (by decide) (am_ne (by decide) (am_ne (by decide) (am_ne (by decide) (am_ne (by decide) f10))))))))), (am_ne (by decide) (am_ne (by decide) (am_ne (by decide) (am_ne (by decide) (am_ne (by decide) (am_ne (by decide) (am_ne (by decide) (am_ne (by decide) (am_ne (by decide) f11))))))))), (am_ne (by decide) (am_ne (by decide) (am_ne (by decide) (am_ne (by decide) (am_ne (by decide) (am_ne (by decide) (am_ne (by decide) (am_ne (by decide) (am_ne (by decide) f12)))))))))⟩ ⟨⟨by decide, by decide, by decide, by decide⟩, am_eq, (am_ne (by decide) am_eq)⟩ (fun h9 fz1 => ?_)
  refine aw_re (S' := [.int 0]) rfl ?_
  refine aw_iret rfl dX7_taken_11 ?_
  exact fin_c hq (am_frT (am_fb.fr (by decide) fz1) (am_frU (by decide) (am_frU (by decide) (am_frU (by decide) (am_frU (by decide) (am_frU (by decide) (am_frU (by decide) (am_frU (by decide) (am_frU (by decide) (am_frU (by decide) am_fr0)))))))))) (show sp_taken = 0 from (by unfold sp_taken; first | rfl | (simp only [wif_same, ite_self]; done) | (simp only [wif_same, ite_self]; rfl) | (simp [wif_same]; done)))
set_option maxHeartbeats 40000000 in
set_option maxRecDepth 100000 in
theorem p_X7_terms {X : List Int32} {d rc rs : Nat} {h : am_H} {Q : am_Q} {w : Int32} (F : f0_X7 h) (hq : ∀ h9, am_fr 69 h9 h → Q (some (.int (sp_terms w))) 92 h9) : AW X mX7_terms (d + 14) rc rs 0 [some (.ref 0), some (.int w)] [] 92 h Q := by
  obtain ⟨f0, f1, f2, f3, f4, f5, f6, f7, f8, f9, f10, f11, f12, -, -, -, -, -, -, -, -, -, -, -, -, -, -, -, -, -, -, -, -, -, -, -, -, f37, f38, -, -, -, -, -, -, -, -, -, -, -, -, -, -, -, -, -, -, -, -, -, -, -, -, -, -, -, -, -, -⟩ := F
  refine aw_iload_n (npc := 1) rfl dX7_terms_0 rfl ?_
  refine aw_if_ne (npc := 4) (tgt := 19) dX7_terms_1 rfl (by decide) (fun hc1 => ?_) (fun hc1 => ?_)
  · refine aw_iload_n (npc := 20) rfl dX7_terms_19 rfl ?_
    refine aw_iconst (npc := 21) (v := 1) (by decide) dX7_terms_20 rfl ?_
    refine aw_icmp_ne (npc := 24) (tgt := 39) dX7_terms_21 rfl (by decide) (fun hc2 => ?_) (fun hc2 => ?_)
    · refine aw_ldc (npc := 41) kc_X7_78 dX7_terms_39 rfl ?_
      refine aw_iret rfl dX7_terms_41 ?_
      exact fin_c hq am_fr0 (show sp_terms w = (-1000000001) from (by unfold sp_terms; first | rfl | (simp only [if_neg hc1, if_neg hc2, wif_same, ite_self]; done) | (simp only [if_neg hc1, if_neg hc2, wif_same, ite_self]; rfl) | (simp [if_neg hc1, if_neg hc2, wif_same]; done)))
    · subst hc2
      refine aw_aload_n (npc := 25) rfl dX7_terms_24 rfl ?_
      refine aw_get (npc := 28) dX7_terms_25 rfl kf_X7_29 f0 rfl ?_
      refine aw_aload_n (npc := 29) rfl dX7_terms_28 rfl ?_
      refine aw_get (npc := 32) dX7_terms_29 rfl kf_X7_10 f0 rfl ?_
      refine aw_callV (npc := 35) (N := mX6_nearest) (b := 37) (mc := 0) (ms := 0) (A := [.ref 1]) (S := []) (L0 := [some (.ref 37), some (.ref 1), none, none, none, none]) dX7_terms_32 rfl km_X6_nearest kk_X7_190 f37 ⟨by decide, rfl⟩ rfl ⟨rfl, by decide⟩ rfl (Nat.le_of_ble_eq_true rfl) (Nat.zero_add _) (Nat.zero_add _) rfl ?_
      refine aw_iconst (npc := 1) (v := -1) (by decide) dX6_nearest_0 rfl ?_
      refine aw_istore_n (npc := 2) (L' := [some (.ref 37), some (.ref 1), some (.int (-1)), none, none, none]) dX6_nearest_1 rfl (by decide) rfl rfl ?_
      refine aw_iconst (npc := 3) (v := 0) (by decide) dX6_nearest_2 rfl ?_
      refine aw_istore_n (npc := 4) (L' := [some (.ref 37), some (.ref 1), some (.int (-1)), some (.int 0), none, none]) dX6_nearest_3 rfl (by decide) rfl rfl ?_
      refine aw_aload_n (npc := 5) rfl dX6_nearest_4 rfl ?_
      refine aw_aload_n (npc := 6) rfl dX6_nearest_5 rfl ?_
      refine aw_callV (npc := 9) (N := mX6_start) (b := 37) (mc := 0) (ms := 0) (A := [.ref 1]) (S := []) (L0 := [some (.ref 37), some (.ref 1), none]) dX6_nearest_6 rfl km_X6_start kk_X6_22 f37 ⟨by decide, rfl⟩ rfl ⟨rfl, by decide⟩ rfl (Nat.le_of_ble_eq_true rfl) (Nat.zero_add _) (Nat.zero_add _) rfl ?_
      refine aw_aload_n (npc := 1) rfl dX6_start_0 rfl ?_
      refine aw_iconst (npc := 2) (v := 0) (by decide) dX6_start_1 rfl ?_
      refine aw_put (npc := 5) dX6_start_2 rfl kf_X6_15 f37 (Nat.le_of_ble_eq_true rfl) (am_ok_int _) rfl ?_
      refine aw_aload_n (npc := 6) rfl dX6_start_5 rfl ?_
      refine aw_iconst (npc := 7) (v := 0) (by decide) dX6_start_6 rfl ?_
      refine aw_put (npc := 10) dX6_start_7 rfl kf_X6_19 am_eq (Nat.le_of_ble_eq_true rfl) (am_ok_int _) am_uu ?_
      refine aw_iconst (npc := 11) (v := 0) (by decide) dX6_start_10 rfl ?_
      refine aw_istore_n (npc := 12) (L' := [some (.ref 37), some (.ref 1), some (.int 0)]) dX6_start_11 rfl (by decide) rfl rfl ?_
      refine aw_iload_n (npc := 13) rfl dX6_start_12 rfl ?_
      refine aw_iconst (npc := 14) (v := 4) (by decide) dX6_start_13 rfl ?_
      refine aw_icmp_ge (npc := 17) (tgt := 52) dX6_start_14 rfl (by decide) (fun hc => absurd hc (by decide)) (fun _ => ?_)
      refine aw_aload_n (npc := 18) rfl dX6_start_17 rfl ?_
      refine aw_get (npc := 21) dX6_start_18 rfl kf_X6_9 am_eq rfl ?_
      refine aw_iload_n (npc := 22) rfl dX6_start_21 rfl ?_
      refine aw_iconst (npc := 23) (v := 0) (by decide) dX6_start_22 rfl ?_
      refine aw_iast (npc := 24) (j := 0) dX6_start_23 rfl (am_ne (by decide) f38) ⟨by decide, by decide⟩ (Nat.le_of_ble_eq_true rfl) (show _ = am_up _ 38 (.inl (0, [0, 0, 0, 0])) from rfl) ?_
      refine aw_aload_n (npc := 25) rfl dX6_start_24 rfl ?_
      refine aw_dup (npc := 26) rfl dX6_start_25 rfl ?_
      refine aw_get (npc := 29) dX6_start_26 rfl kf_X6_19 (am_ne (by decide) am_eq) rfl ?_
      refine aw_bipush (npc := 31) (v := 9) (by decide) dX6_start_29 rfl ?_
      refine aw_aload_n (npc := 32) rfl dX6_start_31 rfl ?_
      refine aw_get (npc := 35) dX6_start_32 rfl kf_X6_36 (am_ne (by decide) (am_ne (by decide) f1)) rfl ?_
      refine aw_iconst (npc := 36) (v := 1) (by decide) dX6_start_35 rfl ?_
      refine aw_iload_n (npc := 37) rfl dX6_start_36 rfl ?_
      refine aw_callSN (npc := 40) (N := mX7_carePlace) (mc := 0) (ms := 0) (A := [.int 1, .int 0]) (S := [.ref 3, .int 9, .int 0, .ref 37]) (L0 := [some (.int 1), some (.int 0)]) dX6_start_37 rfl km_X7_carePlace kk_X6_41 rfl ⟨rfl, by decide⟩ rfl (Nat.le_of_ble_eq_true rfl) (Nat.zero_add _) (Nat.zero_add _) rfl ?_
      refine aw_iload_n (npc := 1) rfl dX7_carePlace_0 rfl ?_
      refine aw_iconst (npc := 2) (v := 4) (by decide) dX7_carePlace_1 rfl ?_
      refine aw_imulV (npc := 3) (v := 4) dX7_carePlace_2 rfl (by decide) ?_
      refine aw_iload_n (npc := 4) rfl dX7_carePlace_3 rfl ?_
      refine aw_iaddV (npc := 5) (v := 4) dX7_carePlace_4 rfl (by decide) ?_
      refine aw_iret rfl dX7_carePlace_5 ?_
      refine aw_re (S' := [.int 4, .ref 3, .int 9, .int 0, .ref 37]) rfl ?_
      refine aw_iald (npc := 41) (x := 1) (j := 4) dX6_start_40 rfl (am_ne (by decide) (am_ne (by decide) f3)) ⟨by decide, by decide⟩ rfl ?_
      refine aw_imulV (npc := 42) (v := 9) dX6_start_41 rfl (by decide) ?_
      refine aw_iaddV (npc := 43) (v := 9) dX6_start_42 rfl (by decide) ?_
      refine aw_put (npc := 46) dX6_start_43 rfl kf_X6_19 (am_ne (by decide) am_eq) (Nat.le_of_ble_eq_true rfl) (am_ok_int _) rfl ?_
      refine aw_iinc (npc := 49) (v := 1) (L' := [some (.ref 37), some (.ref 1), some (.int 1)]) dX6_start_46 rfl rfl (by decide) (by decide) rfl rfl ?_
      refine aw_goto (npc := 12) dX6_start_49 (by decide) ?_
      refine aw_iload_n (npc := 13) rfl dX6_start_12 rfl ?_
      refine aw_iconst (npc := 14) (v := 4) (by decide) dX6_start_13 rfl ?_
      refine aw_icmp_ge (npc := 17) (tgt := 52) dX6_start_14 rfl (by decide) (fun hc => absurd hc (by decide)) (fun _ => ?_)
      refine aw_aload_n (npc := 18) rfl dX6_start_17 rfl ?_
      refine aw_get (npc := 21) dX6_start_18 rfl kf_X6_9 am_eq rfl ?_
      refine aw_iload_n (npc := 22) rfl dX6_start_21 rfl ?_
      refine aw_iconst (npc := 23) (v := 0) (by decide) dX6_start_22 rfl ?_
      refine aw_iast (npc := 24) (j := 1) dX6_start_23 rfl (am_ne (by decide) am_eq) ⟨by decide, by decide⟩ (Nat.le_of_ble_eq_true rfl) (show _ = am_up _ 38 (.inl (0, [0, 0, 0, 0])) from rfl) ?_
      refine aw_aload_n (npc := 25) rfl dX6_start_24 rfl ?_
      refine aw_dup (npc := 26) rfl dX6_start_25 rfl ?_
      refine aw_get (npc := 29) dX6_start_26 rfl kf_X6_19 (am_ne (by decide) am_eq) rfl ?_
      refine aw_bipush (npc := 31) (v := 9) (by decide) dX6_start_29 rfl ?_
      refine aw_aload_n (npc := 32) rfl dX6_start_31 rfl ?_
      refine aw_get (npc := 35) dX6_start_32 rfl kf_X6_36 (am_ne (by decide) (am_ne (by decide) (am_ne (by decide) (am_ne (by decide) f1)))) rfl ?_
      refine aw_iconst (npc := 36) (v := 1) (by decide) dX6_start_35 rfl ?_
      refine aw_iload_n (npc := 37) rfl dX6_start_36 rfl ?_
      refine aw_callSN (npc := 40) (N := mX7_carePlace) (mc := 0) (ms := 0) (A := [.int 1, .int 1]) (S := [.ref 3, .int 9, .int 9, .ref 37]) (L0 := [some (.int 1), some (.int 1)]) dX6_start_37 rfl km_X7_carePlace kk_X6_41 rfl ⟨rfl, by decide⟩ rfl (Nat.le_of_ble_eq_true rfl) (Nat.zero_add _) (Nat.zero_add _) rfl ?_
      refine aw_iload_n (npc := 1) rfl dX7_carePlace_0 rfl ?_
      refine aw_iconst (npc := 2) (v := 4) (by decide) dX7_carePlace_1 rfl ?_
      refine aw_imulV (npc := 3) (v := 4) dX7_carePlace_2 rfl (by decide) ?_
      refine aw_iload_n (npc := 4) rfl dX7_carePlace_3 rfl ?_
      refine aw_iaddV (npc := 5) (v := 5) dX7_carePlace_4 rfl (by decide) ?_
      refine aw_iret rfl dX7_carePlace_5 ?_
      refine aw_re (S' := [.int 5, .ref 3, .int 9, .int 9, .ref 37]) rfl ?_
      refine aw_iald (npc := 41) (x := 1) (j := 5) dX6_start_40 rfl (am_ne (by decide) (am_ne (by decide) (am_ne (by decide) (am_ne (by decide) f3)))) ⟨by decide, by decide⟩ rfl ?_
      refine aw_imulV (npc := 42) (v := 9) dX6_start_41 rfl (by decide) ?_
      refine aw_iaddV (npc := 43) (v := 18) dX6_start_42 rfl (by decide) ?_
      refine aw_put (npc := 46) dX6_start_43 rfl kf_X6_19 (am_ne (by decide) am_eq) (Nat.le_of_ble_eq_true rfl) (am_ok_int _) rfl ?_
      refine aw_iinc (npc := 49) (v := 2) (L' := [some (.ref 37), some (.ref 1), some (.int 2)]) dX6_start_46 rfl rfl (by decide) (by decide) rfl rfl ?_
      refine aw_goto (npc := 12) dX6_start_49 (by decide) ?_
      refine aw_iload_n (npc := 13) rfl dX6_start_12 rfl ?_
      refine aw_iconst (npc := 14) (v := 4) (by decide) dX6_start_13 rfl ?_
      refine aw_icmp_ge (npc := 17) (tgt := 52) dX6_start_14 rfl (by decide) (fun hc => absurd hc (by decide)) (fun _ => ?_)
      refine aw_aload_n (npc := 18) rfl dX6_start_17 rfl ?_
      refine aw_get (npc := 21) dX6_start_18 rfl kf_X6_9 am_eq rfl ?_
      refine aw_iload_n (npc := 22) rfl dX6_start_21 rfl ?_
      refine aw_iconst (npc := 23) (v := 0) (by decide) dX6_start_22 rfl ?_
      refine aw_iast (npc := 24) (j := 2) dX6_start_23 rfl (am_ne (by decide) am_eq) ⟨by decide, by decide⟩ (Nat.le_of_ble_eq_true rfl) (show _ = am_up _ 38 (.inl (0, [0, 0, 0, 0])) from rfl) ?_
      refine aw_aload_n (npc := 25) rfl dX6_start_24 rfl ?_
      refine aw_dup (npc := 26) rfl dX6_start_25 rfl ?_
      refine aw_get (npc := 29) dX6_start_26 rfl kf_X6_19 (am_ne (by decide) am_eq) rfl ?_
      refine aw_bipush (npc := 31) (v := 9) (by decide) dX6_start_29 rfl ?_
      refine aw_aload_n (npc := 32) rfl dX6_start_31 rfl ?_
      refine aw_get (npc := 35) dX6_start_32 rfl kf_X6_36 (am_ne (by decide) (am_ne (by decide) (am_ne (by decide) (am_ne (by decide) (am_ne (by decide) (am_ne (by decide) f1)))))) rfl ?_
      refine aw_iconst (npc := 36) (v := 1) (by decide) dX6_start_35 rfl ?_
      refine aw_iload_n (npc := 37) rfl dX6_start_36 rfl ?_
      refine aw_callSN (npc := 40) (N := mX7_carePlace) (mc := 0) (ms := 0) (A := [.int 1, .int 2]) (S := [.ref 3, .int 9, .int 18, .ref 37]) (L0 := [some (.int 1), some (.int 2)]) dX6_start_37 rfl km_X7_carePlace kk_X6_41 rfl ⟨rfl, by decide⟩ rfl (Nat.le_of_ble_eq_true rfl) (Nat.zero_add _) (Nat.zero_add _) rfl ?_
      refine aw_iload_n (npc := 1) rfl dX7_carePlace_0 rfl ?_
      refine aw_iconst (npc := 2) (v := 4) (by decide) dX7_carePlace_1 rfl ?_
      refine aw_imulV (npc := 3) (v := 4) dX7_carePlace_2 rfl (by decide) ?_
      refine aw_iload_n (npc := 4) rfl dX7_carePlace_3 rfl ?_
      refine aw_iaddV (npc := 5) (v := 6) dX7_carePlace_4 rfl (by decide) ?_
      refine aw_iret rfl dX7_carePlace_5 ?_
      refine aw_re (S' := [.int 6, .ref 3, .int 9, .int 18, .ref 37]) rfl ?_
      refine aw_iald (npc := 41) (x := 1) (j := 6) dX6_start_40 rfl (am_ne (by decide) (am_ne (by decide) (am_ne (by decide) (am_ne (by decide) (am_ne (by decide) (am_ne (by decide) f3)))))) ⟨by decide, by decide⟩ rfl ?_
      refine aw_imulV (npc := 42) (v := 9) dX6_start_41 rfl (by decide) ?_
      refine aw_iaddV (npc := 43) (v := 27) dX6_start_42 rfl (by decide) ?_
      refine aw_put (npc := 46) dX6_start_43 rfl kf_X6_19 (am_ne (by decide) am_eq) (Nat.le_of_ble_eq_true rfl) (am_ok_int _) rfl ?_
      refine aw_iinc (npc := 49) (v := 3) (L' := [some (.ref 37), some (.ref 1), some (.int 3)]) dX6_start_46 rfl rfl (by decide) (by decide) rfl rfl ?_
      refine aw_goto (npc := 12) dX6_start_49 (by decide) ?_
      refine aw_iload_n (npc := 13) rfl dX6_start_12 rfl ?_
      refine aw_iconst (npc := 14) (v := 4) (by decide) dX6_start_13 rfl ?_
      refine aw_icmp_ge (npc := 17) (tgt := 52) dX6_start_14 rfl (by decide) (fun hc => absurd hc (by decide)) (fun _ => ?_)
      refine aw_aload_n (npc := 18) rfl dX6_start_17 rfl ?_
      refine aw_get (npc := 21) dX6_start_18 rfl kf_X6_9 am_eq rfl ?_
      refine aw_iload_n (npc := 22) rfl dX6_start_21 rfl ?_
      refine aw_iconst (npc := 23) (v := 0) (by decide) dX6_start_22 rfl ?_
      refine aw_iast (npc := 24) (j := 3) dX6_start_23 rfl (am_ne (by decide) am_eq) ⟨by decide, by decide⟩ (Nat.le_of_ble_eq_true rfl) (show _ = am_up _ 38 (.inl (0, [0, 0, 0, 0])) from rfl) ?_
      refine aw_aload_n (npc := 25) rfl dX6_start_24 rfl ?_
      refine aw_dup (npc := 26) rfl dX6_start_25 rfl ?_
      refine aw_get (npc := 29) dX6_start_26 rfl kf_X6_19 (am_ne (by decide) am_eq) rfl ?_
      refine aw_bipush (npc := 31) (v := 9) (by decide) dX6_start_29 rfl ?_
      refine aw_aload_n (npc := 32) rfl dX6_start_31 rfl ?_
      refine aw_get (npc := 35) dX6_start_32 rfl kf_X6_36 (am_ne (by decide) (am_ne (by decide) (am_ne (by decide) (am_ne (by decide) (am_ne (by decide) (am_ne (by decide) (am_ne (by decide) (am_ne (by decide) f1)))))))) rfl ?_
      refine aw_iconst (npc := 36) (v := 1) (by decide) dX6_start_35 rfl ?_
      refine aw_iload_n (npc := 37) rfl dX6_start_36 rfl ?_
      refine aw_callSN (npc := 40) (N := mX7_carePlace) (mc := 0) (ms := 0) (A := [.int 1, .int 3]) (S := [.ref 3, .int 9, .int 27, .ref 37]) (L0 := [some (.int 1), some (.int 3)]) dX6_start_37 rfl km_X7_carePlace kk_X6_41 rfl ⟨rfl, by decide⟩ rfl (Nat.le_of_ble_eq_true rfl) (Nat.zero_add _) (Nat.zero_add _) rfl ?_
      refine aw_iload_n (npc := 1) rfl dX7_carePlace_0 rfl ?_
      refine aw_iconst (npc := 2) (v := 4) (by decide) dX7_carePlace_1 rfl ?_
      refine aw_imulV (npc := 3) (v := 4) dX7_carePlace_2 rfl (by decide) ?_
      refine aw_iload_n (npc := 4) rfl dX7_carePlace_3 rfl ?_
      refine aw_iaddV (npc := 5) (v := 7) dX7_carePlace_4 rfl (by decide) ?_
      refine aw_iret rfl dX7_carePlace_5 ?_
      refine aw_re (S' := [.int 7, .ref 3, .int 9, .int 27, .ref 37]) rfl ?_
      refine aw_iald (npc := 41) (x := 1) (j := 7) dX6_start_40 rfl (am_ne (by decide) (am_ne (by decide) (am_ne (by decide) (am_ne (by decide) (am_ne (by decide) (am_ne (by decide) (am_ne (by decide) (am_ne (by decide) f3)))))))) ⟨by decide, by decide⟩ rfl ?_
      refine aw_imulV (npc := 42) (v := 9) dX6_start_41 rfl (by decide) ?_
      refine aw_iaddV (npc := 43) (v := 36) dX6_start_42 rfl (by decide) ?_
      refine aw_put (npc := 46) dX6_start_43 rfl kf_X6_19 (am_ne (by decide) am_eq) (Nat.le_of_ble_eq_true rfl) (am_ok_int _) rfl ?_
      refine aw_iinc (npc := 49) (v := 4) (L' := [some (.ref 37), some (.ref 1), some (.int 4)]) dX6_start_46 rfl rfl (by decide) (by decide) rfl rfl ?_
      refine aw_goto (npc := 12) dX6_start_49 (by decide) ?_
      refine aw_iload_n (npc := 13) rfl dX6_start_12 rfl ?_
      refine aw_iconst (npc := 14) (v := 4) (by decide) dX6_start_13 rfl ?_
      refine aw_icmp_ge (npc := 17) (tgt := 52) dX6_start_14 rfl (by decide) (fun _ => ?_) (fun hc => absurd (by decide) hc)
      refine aw_vret rfl dX6_start_52 ?_
      refine aw_iconst (npc := 10) (v := 0) (by decide) dX6_nearest_9 rfl ?_
      refine aw_istore (npc := 12) (L' := [some (.ref 37), some (.ref 1), some (.int (-1)), some (.int 0), some (.int 0), none]) dX6_nearest_10 rfl (by decide) rfl rfl ?_
      refine aw_locs (L' := [some (.ref 37), some (.ref 1), some (.int (-1)), some (.int 0), some (.int (nI 0)), none]) rfl ?_
      refine p_X6_nearestL 10000 0 (by omega) 0 0 0 0 _ ⟨(am_ne (by decide) (am_ne (by decide) (am_ne (by decide) (am_ne (by decide) (am_ne (by decide) (am_ne (by decide) (am_ne (by decide) (am_ne (by decide) (am_ne (by decide) f1))))))))), (am_ne (by decide) (am_ne (by decide) (am_ne (by decide) (am_ne (by decide) (am_ne (by decide) (am_ne (by decide) (am_ne (by decide) (am_ne (by decide) (am_ne (by decide) f2))))))))), (am_ne (by decide) (am_ne (by decide) (am_ne (by decide) (am_ne (by decide) (am_ne (by decide) (am_ne (by decide) (am_ne (by decide) (am_ne (by decide) (am_ne (by decide) f3))))))))), (am_ne (by decide) (am_ne (by decide) (am_ne (by decide) (am_ne (by decide) (am_ne (by decide) (am_ne (by decide) (am_ne (by decide) (am_ne (by decide) (am_ne (by decide) f4))))))))), (am_ne (by decide) (am_ne (by decide) (am_ne (by decide) (am_ne (by decide) (am_ne (by decide) (am_ne (by decide) (am_ne (by decide) (am_ne (by decide) (am_ne (by decide) f5))))))))), (am_ne (by decide) (am_ne (by decide) (am_ne (by decide) (am_ne (by decide) (am_ne (by decide) (am_ne (by decide) (am_ne (by decide) (am_ne (by decide) (am_ne (by decide) f6))))))))), (am_ne (by decide) (am_ne (by decide) (am_ne (by decide) (am_ne (by decide) (am_ne (by decide) (am_ne (by decide) (am_ne (by decide) (am_ne (by decide) (am_ne (by decide) f7))))))))), (am_ne (by decide) (am_ne (by decide) (am_ne (by decide) (am_ne (by decide) (am_ne (by decide) (am_ne (by decide) (am_ne (by decide) (am_ne (by decide) (am_ne (by decide) f8))))))))), (am_ne (by decide) (am_ne (by decide) (am_ne (by decide) (am_ne (by decide) (am_ne (by decide) (am_ne (by decide) (am_ne (by decide) (am_ne (by decide) (am_ne (by decide) f9))))))))), (am_ne (by decide) (am_ne (by decide) (am_ne (by decide) (am_ne (by decide) (am_ne (by decide) (am_ne (by decide) (am_ne (by decide) (am_ne (by decide) (am_ne (by decide) f10))))))))), (am_ne (by decide) (am_ne (by decide) (am_ne (by decide) (am_ne (by decide) (am_ne (by decide) (am_ne (by decide) (am_ne (by decide) (am_ne (by decide) (am_ne (by decide) f11))))))))), (am_ne (by decide) (am_ne (by decide) (am_ne (by decide) (am_ne (by decide) (am_ne (by decide) (am_ne (by decide) (am_ne (by decide) (am_ne (by decide) (am_ne (by decide) f12)))))))))⟩ ⟨⟨by decide, by decide, by decide, by decide⟩, am_eq, (am_ne (by decide) am_eq)⟩ (fun h9 fz3 => ?_)
      refine aw_re (S' := [.int (-1)]) rfl ?_
      refine aw_callS (npc := 38) (N := mX7_orNone) (mc := 0) (ms := 0) (A := [.int (-1)]) (S := []) (L0 := [some (.int (-1))]) dX7_terms_35 rfl km_X7_orNone kk_X7_112 rfl ⟨rfl, by decide⟩ rfl (Nat.le_of_ble_eq_true rfl) (Nat.zero_add _) (Nat.zero_add _) rfl ?_
      refine aw_iload_n (npc := 1) rfl dX7_orNone_0 rfl ?_
      refine aw_if_ge (npc := 4) (tgt := 9) dX7_orNone_1 rfl (by decide) (fun hc => absurd hc (by decide)) (fun _ => ?_)
      refine aw_ldc (npc := 6) kc_X7_200 dX7_orNone_4 rfl ?_
      refine aw_goto (npc := 10) dX7_orNone_6 (by decide) ?_
      refine aw_iret rfl dX7_orNone_10 ?_
      refine aw_re (S' := [.int (-1000000005)]) rfl ?_
      refine aw_iret rfl dX7_terms_38 ?_
      exact fin_c hq (am_frT (am_fb.fr (by decide) fz3) (am_frU (by decide) (am_frU (by decide) (am_frU (by decide) (am_frU (by decide) (am_frU (by decide) (am_frU (by decide) (am_frU (by decide) (am_frU (by decide) (am_frU (by decide) am_fr0)))))))))) (show sp_terms 1 = (-1000000005) from (by unfold sp_terms; first | rfl | (simp only [if_neg hc1, wif_same, ite_self]; done) | (simp only [if_neg hc1, wif_same, ite_self]; rfl) | (simp [if_neg hc1, wif_same]; done)))
  · subst hc1
    refine aw_aload_n (npc := 5) rfl dX7_terms_4 rfl ?_
    refine aw_get (npc := 8) dX7_terms_5 rfl kf_X7_29 f0 rfl ?_
    refine aw_aload_n (npc := 9) rfl dX7_terms_8 rfl ?_
    refine aw_get (npc := 12) dX7_terms_9 rfl kf_X7_10 f0 rfl ?_
    refine aw_callV (npc := 15) (N := mX6_fairest) (b := 37) (mc := 0) (ms := 0) (A := [.ref 1]) (S := []) (L0 := [some (.ref 37), some (.ref 1), none, none, none, none]) dX7_terms_12 rfl km_X6_fairest kk_X7_187 f37 ⟨by decide, rfl⟩ rfl ⟨rfl, by decide⟩ rfl (Nat.le_of_ble_eq_true rfl) (Nat.zero_add _) (Nat.zero_add _) rfl ?_
    refine aw_iconst (npc := 1) (v := -1) (by decide) dX6_fairest_0 rfl ?_
    refine aw_istore_n (npc := 2) (L' := [some (.ref 37), some (.ref 1), some (.int (-1)), none, none, none]) dX6_fairest_1 rfl (by decide) rfl rfl ?_
    refine aw_iconst (npc := 3) (v := -1) (by decide) dX6_fairest_2 rfl ?_
    refine aw_istore_n (npc := 4) (L' := [some (.ref 37), some (.ref 1), some (.int (-1)), some (.int (-1)), none, none]) dX6_fairest_3 rfl (by decide) rfl rfl ?_
    refine aw_aload_n (npc := 5) rfl dX6_fairest_4 rfl ?_
    refine aw_aload_n (npc := 6) rfl dX6_fairest_5 rfl ?_
    refine aw_callV (npc := 9) (N := mX6_start) (b := 37) (mc := 0) (ms := 0) (A := [.ref 1]) (S := []) (L0 := [some (.ref 37), some (.ref 1), none]) dX6_fairest_6 rfl km_X6_start kk_X6_22 f37 ⟨by decide, rfl⟩ rfl ⟨rfl, by decide⟩ rfl (Nat.le_of_ble_eq_true rfl) (Nat.zero_add _) (Nat.zero_add _) rfl ?_
    refine aw_aload_n (npc := 1) rfl dX6_start_0 rfl ?_
    refine aw_iconst (npc := 2) (v := 0) (by decide) dX6_start_1 rfl ?_
    refine aw_put (npc := 5) dX6_start_2 rfl kf_X6_15 f37 (Nat.le_of_ble_eq_true rfl) (am_ok_int _) rfl ?_
    refine aw_aload_n (npc := 6) rfl dX6_start_5 rfl ?_
    refine aw_iconst (npc := 7) (v := 0) (by decide) dX6_start_6 rfl ?_
    refine aw_put (npc := 10) dX6_start_7 rfl kf_X6_19 am_eq (Nat.le_of_ble_eq_true rfl) (am_ok_int _) am_uu ?_
    refine aw_iconst (npc := 11) (v := 0) (by decide) dX6_start_10 rfl ?_
    refine aw_istore_n (npc := 12) (L' := [some (.ref 37), some (.ref 1), some (.int 0)]) dX6_start_11 rfl (by decide) rfl rfl ?_
    refine aw_iload_n (npc := 13) rfl dX6_start_12 rfl ?_
    refine aw_iconst (npc := 14) (v := 4) (by decide) dX6_start_13 rfl ?_
    refine aw_icmp_ge (npc := 17) (tgt := 52) dX6_start_14 rfl (by decide) (fun hc => absurd hc (by decide)) (fun _ => ?_)
    refine aw_aload_n (npc := 18) rfl dX6_start_17 rfl ?_
    refine aw_get (npc := 21) dX6_start_18 rfl kf_X6_9 am_eq rfl ?_
    refine aw_iload_n (npc := 22) rfl dX6_start_21 rfl ?_
    refine aw_iconst (npc := 23) (v := 0) (by decide) dX6_start_22 rfl ?_
    refine aw_iast (npc := 24) (j := 0) dX6_start_23 rfl (am_ne (by decide) f38) ⟨by decide, by decide⟩ (Nat.le_of_ble_eq_true rfl) (show _ = am_up _ 38 (.inl (0, [0, 0, 0, 0])) from rfl) ?_
    refine aw_aload_n (npc := 25) rfl dX6_start_24 rfl ?_
    refine aw_dup (npc := 26) rfl dX6_start_25 rfl ?_
    refine aw_get (npc := 29) dX6_start_26 rfl kf_X6_19 (am_ne (by decide) am_eq) rfl ?_
    refine aw_bipush (npc := 31) (v := 9) (by decide) dX6_start_29 rfl ?_
    refine aw_aload_n (npc := 32) rfl dX6_start_31 rfl ?_
    refine aw_get (npc := 35) dX6_start_32 rfl kf_X6_36 (am_ne (by decide) (am_ne (by decide) f1)) rfl ?_
    refine aw_iconst (npc := 36) (v := 1) (by decide) dX6_start_35 rfl ?_
    refine aw_iload_n (npc := 37) rfl dX6_start_36 rfl ?_
    refine aw_callSN (npc := 40) (N := mX7_carePlace) (mc := 0) (ms := 0) (A := [.int 1, .int 0]) (S := [.ref 3, .int 9, .int 0, .ref 37]) (L0 := [some (.int 1), some (.int 0)]) dX6_start_37 rfl km_X7_carePlace kk_X6_41 rfl ⟨rfl, by decide⟩ rfl (Nat.le_of_ble_eq_true rfl) (Nat.zero_add _) (Nat.zero_add _) rfl ?_
    refine aw_iload_n (npc := 1) rfl dX7_carePlace_0 rfl ?_
    refine aw_iconst (npc := 2) (v := 4) (by decide) dX7_carePlace_1 rfl ?_
    refine aw_imulV (npc := 3) (v := 4) dX7_carePlace_2 rfl (by decide) ?_
    refine aw_iload_n (npc := 4) rfl dX7_carePlace_3 rfl ?_
    refine aw_iaddV (npc := 5) (v := 4) dX7_carePlace_4 rfl (by decide) ?_
    refine aw_iret rfl dX7_carePlace_5 ?_
    refine aw_re (S' := [.int 4, .ref 3, .int 9, .int 0, .ref 37]) rfl ?_
    refine aw_iald (npc := 41) (x := 1) (j := 4) dX6_start_40 rfl (am_ne (by decide) (am_ne (by decide) f3)) ⟨by decide, by decide⟩ rfl ?_
    refine aw_imulV (npc := 42) (v := 9) dX6_start_41 rfl (by decide) ?_
    refine aw_iaddV (npc := 43) (v := 9) dX6_start_42 rfl (by decide) ?_
    refine aw_put (npc := 46) dX6_start_43 rfl kf_X6_19 (am_ne (by decide) am_eq) (Nat.le_of_ble_eq_true rfl) (am_ok_int _) rfl ?_
    refine aw_iinc (npc := 49) (v := 1) (L' := [some (.ref 37), some (.ref 1), some (.int 1)]) dX6_start_46 rfl rfl (by decide) (by decide) rfl rfl ?_
    refine aw_goto (npc := 12) dX6_start_49 (by decide) ?_
    refine aw_iload_n (npc := 13) rfl dX6_start_12 rfl ?_
    refine aw_iconst (npc := 14) (v := 4) (by decide) dX6_start_13 rfl ?_
    refine aw_icmp_ge (npc := 17) (tgt := 52) dX6_start_14 rfl (by decide) (fun hc => absurd hc (by decide)) (fun _ => ?_)
    refine aw_aload_n (npc := 18) rfl dX6_start_17 rfl ?_
    refine aw_get (npc := 21) dX6_start_18 rfl kf_X6_9 am_eq rfl ?_
    refine aw_iload_n (npc := 22) rfl dX6_start_21 rfl ?_
    refine aw_iconst (npc := 23) (v := 0) (by decide) dX6_start_22 rfl ?_
    refine aw_iast (npc := 24) (j := 1) dX6_start_23 rfl (am_ne (by decide) am_eq) ⟨by decide, by decide⟩ (Nat.le_of_ble_eq_true rfl) (show _ = am_up _ 38 (.inl (0, [0, 0, 0, 0])) from rfl) ?_
    refine aw_aload_n (npc := 25) rfl dX6_start_24 rfl ?_
    refine aw_dup (npc := 26) rfl dX6_start_25 rfl ?_
    refine aw_get (npc := 29) dX6_start_26 rfl kf_X6_19 (am_ne (by decide) am_eq) rfl ?_
    refine aw_bipush (npc := 31) (v := 9) (by decide) dX6_start_29 rfl ?_
    refine aw_aload_n (npc := 32) rfl dX6_start_31 rfl ?_
    refine aw_get (npc := 35) dX6_start_32 rfl kf_X6_36 (am_ne (by decide) (am_ne (by decide) (am_ne (by decide) (am_ne (by decide) f1)))) rfl ?_
    refine aw_iconst (npc := 36) (v := 1) (by decide) dX6_start_35 rfl ?_
    refine aw_iload_n (npc := 37) rfl dX6_start_36 rfl ?_
    refine aw_callSN (npc := 40) (N := mX7_carePlace) (mc := 0) (ms := 0) (A := [.int 1, .int 1]) (S := [.ref 3, .int 9, .int 9, .ref 37]) (L0 := [some (.int 1), some (.int 1)]) dX6_start_37 rfl km_X7_carePlace kk_X6_41 rfl ⟨rfl, by decide⟩ rfl (Nat.le_of_ble_eq_true rfl) (Nat.zero_add _) (Nat.zero_add _) rfl ?_
    refine aw_iload_n (npc := 1) rfl dX7_carePlace_0 rfl ?_
    refine aw_iconst (npc := 2) (v := 4) (by decide) dX7_carePlace_1 rfl ?_
    refine aw_imulV (npc := 3) (v := 4) dX7_carePlace_2 rfl (by decide) ?_
    refine aw_iload_n (npc := 4) rfl dX7_carePlace_3 rfl ?_
    refine aw_iaddV (npc := 5) (v := 5) dX7_carePlace_4 rfl (by decide) ?_
    refine aw_iret rfl dX7_carePlace_5 ?_
    refine aw_re (S' := [.int 5, .ref 3, .int 9, .int 9, .ref 37]) rfl ?_
    refine aw_iald (npc := 41) (x := 1) (j := 5) dX6_start_40 rfl (am_ne (by decide) (am_ne (by decide) (am_ne (by decide) (am_ne (by decide) f3)))) ⟨by decide, by decide⟩ rfl ?_
    refine aw_imulV (npc := 42) (v := 9) dX6_start_41 rfl (by decide) ?_
    refine aw_iaddV (npc := 43) (v := 18) dX6_start_42 rfl (by decide) ?_
    refine aw_put (npc := 46) dX6_start_43 rfl kf_X6_19 (am_ne (by decide) am_eq) (Nat.le_of_ble_eq_true rfl) (am_ok_int _) rfl ?_
    refine aw_iinc (npc := 49) (v := 2) (L' := [some (.ref 37), some (.ref 1), some (.int 2)]) dX6_start_46 rfl rfl (by decide) (by decide) rfl rfl ?_
    refine aw_goto (npc := 12) dX6_start_49 (by decide) ?_
    refine aw_iload_n (npc := 13) rfl dX6_start_12 rfl ?_
    refine aw_iconst (npc := 14) (v := 4) (by decide) dX6_start_13 rfl ?_
    refine aw_icmp_ge (npc := 17) (tgt := 52) dX6_start_14 rfl (by decide) (fun hc => absurd hc (by decide)) (fun _ => ?_)
    refine aw_aload_n (npc := 18) rfl dX6_start_17 rfl ?_
    refine aw_get (npc := 21) dX6_start_18 rfl kf_X6_9 am_eq rfl ?_
    refine aw_iload_n (npc := 22) rfl dX6_start_21 rfl ?_
    refine aw_iconst (npc := 23) (v := 0) (by decide) dX6_start_22 rfl ?_
    refine aw_iast (npc := 24) (j := 2) dX6_start_23 rfl (am_ne (by decide) am_eq) ⟨by decide, by decide⟩ (Nat.le_of_ble_eq_true rfl) (show _ = am_up _ 38 (.inl (0, [0, 0, 0, 0])) from rfl) ?_
    refine aw_aload_n (npc := 25) rfl dX6_start_24 rfl ?_
    refine aw_dup (npc := 26) rfl dX6_start_25 rfl ?_
    refine aw_get (npc := 29) dX6_start_26 rfl kf_X6_19 (am_ne (by decide) am_eq) rfl ?_
    refine aw_bipush (npc := 31) (v := 9) (by decide) dX6_start_29 rfl ?_
    refine aw_aload_n (npc := 32) rfl dX6_start_31 rfl ?_
    refine aw_get (npc := 35) dX6_start_32 rfl kf_X6_36 (am_ne (by decide) (am_ne (by decide) (am_ne (by decide) (am_ne (by decide) (am_ne (by decide) (am_ne (by decide) f1)))))) rfl ?_
    refine aw_iconst (npc := 36) (v := 1) (by decide) dX6_start_35 rfl ?_
    refine aw_iload_n (npc := 37) rfl dX6_start_36 rfl ?_
    refine aw_callSN (npc := 40) (N := mX7_carePlace) (mc := 0) (ms := 0) (A := [.int 1, .int 2]) (S := [.ref 3, .int 9, .int 18, .ref 37]) (L0 := [some (.int 1), some (.int 2)]) dX6_start_37 rfl km_X7_carePlace kk_X6_41 rfl ⟨rfl, by decide⟩ rfl (Nat.le_of_ble_eq_true rfl) (Nat.zero_add _) (Nat.zero_add _) rfl ?_
    refine aw_iload_n (npc := 1) rfl dX7_carePlace_0 rfl ?_
    refine aw_iconst (npc := 2) (v := 4) (by decide) dX7_carePlace_1 rfl ?_
    refine aw_imulV (npc := 3) (v := 4) dX7_carePlace_2 rfl (by decide) ?_
    refine aw_iload_n (npc := 4) rfl dX7_carePlace_3 rfl ?_
    refine aw_iaddV (npc := 5) (v := 6) dX7_carePlace_4 rfl (by decide) ?_
    refine aw_iret rfl dX7_carePlace_5 ?_
    refine aw_re (S' := [.int 6, .ref 3, .int 9, .int 18, .ref 37]) rfl ?_
    refine aw_iald (npc := 41) (x := 1) (j := 6) dX6_start_40 rfl (am_ne (by decide) (am_ne (by decide) (am_ne (by decide) (am_ne (by decide) (am_ne (by decide) (am_ne (by decide) f3)))))) ⟨by decide, by decide⟩ rfl ?_
    refine aw_imulV (npc := 42) (v := 9) dX6_start_41 rfl (by decide) ?_
    refine aw_iaddV (npc := 43) (v := 27) dX6_start_42 rfl (by decide) ?_
    refine aw_put (npc := 46) dX6_start_43 rfl kf_X6_19 (am_ne (by decide) am_eq) (Nat.le_of_ble_eq_true rfl) (am_ok_int _) rfl ?_
    refine aw_iinc (npc := 49) (v := 3) (L' := [some (.ref 37), some (.ref 1), some (.int 3)]) dX6_start_46 rfl rfl (by decide) (by decide) rfl rfl ?_
    refine aw_goto (npc := 12) dX6_start_49 (by decide) ?_
    refine aw_iload_n (npc := 13) rfl dX6_start_12 rfl ?_
    refine aw_iconst (npc := 14) (v := 4) (by decide) dX6_start_13 rfl ?_
    refine aw_icmp_ge (npc := 17) (tgt := 52) dX6_start_14 rfl (by decide) (fun hc => absurd hc (by decide)) (fun _ => ?_)
    refine aw_aload_n (npc := 18) rfl dX6_start_17 rfl ?_
    refine aw_get (npc := 21) dX6_start_18 rfl kf_X6_9 am_eq rfl ?_
    refine aw_iload_n (npc := 22) rfl dX6_start_21 rfl ?_
    refine aw_iconst (npc := 23) (v := 0) (by decide) dX6_start_22 rfl ?_
    refine aw_iast (npc := 24) (j := 3) dX6_start_23 rfl (am_ne (by decide) am_eq) ⟨by decide, by decide⟩ (Nat.le_of_ble_eq_true rfl) (show _ = am_up _ 38 (.inl (0, [0, 0, 0, 0])) from rfl) ?_
    refine aw_aload_n (npc := 25) rfl dX6_start_24 rfl ?_
    refine aw_dup (npc := 26) rfl dX6_start_25 rfl ?_
    refine aw_get (npc := 29) dX6_start_26 rfl kf_X6_19 (am_ne (by decide) am_eq) rfl ?_
    refine aw_bipush (npc := 31) (v := 9) (by decide) dX6_start_29 rfl ?_
    refine aw_aload_n (npc := 32) rfl dX6_start_31 rfl ?_
    refine aw_get (npc := 35) dX6_start_32 rfl kf_X6_36 (am_ne (by decide) (am_ne (by decide) (am_ne (by decide) (am_ne (by decide) (am_ne (by decide) (am_ne (by decide) (am_ne (by decide) (am_ne (by decide) f1)))))))) rfl ?_
    refine aw_iconst (npc := 36) (v := 1) (by decide) dX6_start_35 rfl ?_
    refine aw_iload_n (npc := 37) rfl dX6_start_36 rfl ?_
    refine aw_callSN (npc := 40) (N := mX7_carePlace) (mc := 0) (ms := 0) (A := [.int 1, .int 3]) (S := [.ref 3, .int 9, .int 27, .ref 37]) (L0 := [some (.int 1), some (.int 3)]) dX6_start_37 rfl km_X7_carePlace kk_X6_41 rfl ⟨rfl, by decide⟩ rfl (Nat.le_of_ble_eq_true rfl) (Nat.zero_add _) (Nat.zero_add _) rfl ?_
    refine aw_iload_n (npc := 1) rfl dX7_carePlace_0 rfl ?_
    refine aw_iconst (npc := 2) (v := 4) (by decide) dX7_carePlace_1 rfl ?_
    refine aw_imulV (npc := 3) (v := 4) dX7_carePlace_2 rfl (by decide) ?_
    refine aw_iload_n (npc := 4) rfl dX7_carePlace_3 rfl ?_
    refine aw_iaddV (npc := 5) (v := 7) dX7_carePlace_4 rfl (by decide) ?_
    refine aw_iret rfl dX7_carePlace_5 ?_
    refine aw_re (S' := [.int 7, .ref 3, .int 9, .int 27, .ref 37]) rfl ?_
    refine aw_iald (npc := 41) (x := 1) (j := 7) dX6_start_40 rfl (am_ne (by decide) (am_ne (by decide) (am_ne (by decide) (am_ne (by decide) (am_ne (by decide) (am_ne (by decide) (am_ne (by decide) (am_ne (by decide) f3)))))))) ⟨by decide, by decide⟩ rfl ?_
    refine aw_imulV (npc := 42) (v := 9) dX6_start_41 rfl (by decide) ?_
    refine aw_iaddV (npc := 43) (v := 36) dX6_start_42 rfl (by decide) ?_
    refine aw_put (npc := 46) dX6_start_43 rfl kf_X6_19 (am_ne (by decide) am_eq) (Nat.le_of_ble_eq_true rfl) (am_ok_int _) rfl ?_
    refine aw_iinc (npc := 49) (v := 4) (L' := [some (.ref 37), some (.ref 1), some (.int 4)]) dX6_start_46 rfl rfl (by decide) (by decide) rfl rfl ?_
    refine aw_goto (npc := 12) dX6_start_49 (by decide) ?_
    refine aw_iload_n (npc := 13) rfl dX6_start_12 rfl ?_
    refine aw_iconst (npc := 14) (v := 4) (by decide) dX6_start_13 rfl ?_
    refine aw_icmp_ge (npc := 17) (tgt := 52) dX6_start_14 rfl (by decide) (fun _ => ?_) (fun hc => absurd (by decide) hc)
    refine aw_vret rfl dX6_start_52 ?_
    refine aw_iconst (npc := 10) (v := 0) (by decide) dX6_fairest_9 rfl ?_
    refine aw_istore (npc := 12) (L' := [some (.ref 37), some (.ref 1), some (.int (-1)), some (.int (-1)), some (.int 0), none]) dX6_fairest_10 rfl (by decide) rfl rfl ?_
    refine aw_locs (L' := [some (.ref 37), some (.ref 1), some (.int (-1)), some (.int (-1)), some (.int (nI 0)), none]) rfl ?_
    refine p_X6_fairestL 10000 0 (by omega) _ 0 0 0 0 _ ⟨(am_ne (by decide) (am_ne (by decide) (am_ne (by decide) (am_ne (by decide) (am_ne (by decide) (am_ne (by decide) (am_ne (by decide) (am_ne (by decide) (am_ne (by decide) f1))))))))), (am_ne (by decide) (am_ne (by decide) (am_ne (by decide) (am_ne (by decide) (am_ne (by decide) (am_ne (by decide) (am_ne (by decide) (am_ne (by decide) (am_ne (by decide) f2))))))))), (am_ne (by decide) (am_ne (by decide) (am_ne (by decide) (am_ne (by decide) (am_ne (by decide) (am_ne (by decide) (am_ne (by decide) (am_ne (by decide) (am_ne (by decide) f3))))))))), (am_ne (by decide) (am_ne (by decide) (am_ne (by decide) (am_ne (by decide) (am_ne (by decide) (am_ne (by decide) (am_ne (by decide) (am_ne (by decide) (am_ne (by decide) f4))))))))), (am_ne (by decide) (am_ne (by decide) (am_ne (by decide) (am_ne (by decide) (am_ne (by decide) (am_ne (by decide) (am_ne (by decide) (am_ne (by decide) (am_ne (by decide) f5))))))))), (am_ne (by decide) (am_ne (by decide) (am_ne (by decide) (am_ne (by decide) (am_ne (by decide) (am_ne (by decide) (am_ne (by decide) (am_ne (by decide) (am_ne (by decide) f6))))))))), (am_ne (by decide) (am_ne (by decide) (am_ne (by decide) (am_ne (by decide) (am_ne (by decide) (am_ne (by decide) (am_ne (by decide) (am_ne (by decide) (am_ne (by decide) f7))))))))), (am_ne (by decide) (am_ne (by decide) (am_ne (by decide) (am_ne (by decide) (am_ne (by decide) (am_ne (by decide) (am_ne (by decide) (am_ne (by decide) (am_ne (by decide) f8))))))))), (am_ne (by decide) (am_ne (by decide) (am_ne (by decide) (am_ne (by decide) (am_ne (by decide) (am_ne (by decide) (am_ne (by decide) (am_ne (by decide) (am_ne (by decide) f9))))))))), (am_ne (by decide) (am_ne (by decide) (am_ne (by decide) (am_ne (by decide) (am_ne (by decide) (am_ne (by decide) (am_ne (by decide) (am_ne (by decide) (am_ne (by decide) f10))))))))), (am_ne (by decide) (am_ne (by decide) (am_ne (by decide) (am_ne (by decide) (am_ne (by decide) (am_ne (by decide) (am_ne (by decide) (am_ne (by decide) (am_ne (by decide) f11))))))))), (am_ne (by decide) (am_ne (by decide) (am_ne (by decide) (am_ne (by decide) (am_ne (by decide) (am_ne (by decide) (am_ne (by decide) (am_ne (by decide) (am_ne (by decide) f12)))))))))⟩ ⟨⟨by decide, by decide, by decide, by decide⟩, am_eq, (am_ne (by decide) am_eq)⟩ (fun h9 fz4 => ?_)
    refine aw_re (S' := [.int (-1)]) rfl ?_
    refine aw_callS (npc := 18) (N := mX7_orNone) (mc := 0) (ms := 0) (A := [.int (-1)]) (S := []) (L0 := [some (.int (-1))]) dX7_terms_15 rfl km_X7_orNone kk_X7_112 rfl ⟨rfl, by decide⟩ rfl (Nat.le_of_ble_eq_true rfl) (Nat.zero_add _) (Nat.zero_add _) rfl ?_
    refine aw_iload_n (npc := 1) rfl dX7_orNone_0 rfl ?_
    refine aw_if_ge (npc := 4) (tgt := 9) dX7_orNone_1 rfl (by decide) (fun hc => absurd hc (by decide)) (fun _ => ?_)
    refine aw_ldc (npc := 6) kc_X7_200 dX7_orNone_4 rfl ?_
    refine aw_goto (npc := 10) dX7_orNone_6 (by decide) ?_
    refine aw_iret rfl dX7_orNone_10 ?_
    refine aw_re (S' := [.int (-1000000005)]) rfl ?_
    refine aw_iret rfl dX7_terms_18 ?_
    exact fin_c hq (am_frT (am_fb.fr (by decide) fz4) (am_frU (by decide) (am_frU (by decide) (am_frU (by decide) (am_frU (by decide) (am_frU (by decide) (am_frU (by decide) (am_frU (by decide) (am_frU (by decide) (am_frU (by decide) am_fr0)))))))))) (show sp_terms 0 = (-1000000005) from (by unfold sp_terms; first | rfl | (simp only [wif_same, ite_self]; done) | (simp only [wif_same, ite_self]; rfl) | (simp [wif_same]; done)))
